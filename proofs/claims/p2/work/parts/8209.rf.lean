theorem dr_cX14_word_0 : decode cX14_word 0 = .ok (.aload_n 0, 1) := by decide +kernel
theorem dr_cX14_word_1 : decode cX14_word 1 = .ok (.getfield 28, 3) := by decide +kernel
theorem dr_cX14_word_4 : decode cX14_word 4 = .ok (.aload_n 0, 1) := by decide +kernel
theorem dr_cX14_word_5 : decode cX14_word 5 = .ok (.getfield 44, 3) := by decide +kernel
theorem dr_cX14_word_8 : decode cX14_word 8 = .ok (.baload, 1) := by decide +kernel
theorem dr_cX14_word_9 : decode cX14_word 9 = .ok (.istore_n 1, 1) := by decide +kernel
theorem dr_cX14_word_10 : decode cX14_word 10 = .ok (.aload_n 0, 1) := by decide +kernel
theorem dr_cX14_word_11 : decode cX14_word 11 = .ok (.bipush 6, 2) := by decide +kernel
theorem dr_cX14_word_13 : decode cX14_word 13 = .ok (.putfield 38, 3) := by decide +kernel
theorem dr_cX14_word_178 : decode cX14_word 178 = .ok (.new 87, 3) := by decide +kernel
theorem dr_cX14_word_181 : decode cX14_word 181 = .ok (.dup, 1) := by decide +kernel
theorem dr_cX14_word_182 : decode cX14_word 182 = .ok (.invokespecial 89, 3) := by decide +kernel
theorem dr_cX14_word_185 : decode cX14_word 185 = .ok (.astore_n 2, 1) := by decide +kernel
theorem dr_cX14_word_186 : decode cX14_word 186 = .ok (.aload_n 0, 1) := by decide +kernel
theorem dr_cX14_word_187 : decode cX14_word 187 = .ok (.getfield 44, 3) := by decide +kernel
theorem dr_cX14_word_190 : decode cX14_word 190 = .ok (.aload_n 0, 1) := by decide +kernel
theorem dr_cX14_word_191 : decode cX14_word 191 = .ok (.getfield 32, 3) := by decide +kernel
theorem dr_cX14_word_194 : decode cX14_word 194 = .ok (.if_icmp .ge 46, 3) := by decide +kernel
theorem dr_cX14_word_240 : decode cX14_word 240 = .ok (.aload_n 0, 1) := by decide +kernel
theorem dr_cX14_word_241 : decode cX14_word 241 = .ok (.aload_n 2, 1) := by decide +kernel
theorem dr_cX14_word_242 : decode cX14_word 242 = .ok (.invokevirtual 94, 3) := by decide +kernel
theorem dr_cX14_word_245 : decode cX14_word 245 = .ok (.putfield 11, 3) := by decide +kernel
theorem dr_cX14_word_248 : decode cX14_word 248 = .ok (.ldc 98, 2) := by decide +kernel
theorem dr_cX14_word_250 : decode cX14_word 250 = .ok (.new 87, 3) := by decide +kernel
theorem dr_cX14_word_253 : decode cX14_word 253 = .ok (.dup, 1) := by decide +kernel
theorem dr_cX14_word_254 : decode cX14_word 254 = .ok (.invokespecial 89, 3) := by decide +kernel
theorem dr_cX14_word_257 : decode cX14_word 257 = .ok (.ldc 100, 2) := by decide +kernel
theorem dr_cX14_word_259 : decode cX14_word 259 = .ok (.invokevirtual 102, 3) := by decide +kernel
theorem dr_cX14_word_262 : decode cX14_word 262 = .ok (.aload_n 0, 1) := by decide +kernel
theorem dr_cX14_word_263 : decode cX14_word 263 = .ok (.getfield 11, 3) := by decide +kernel
theorem dr_cX14_word_266 : decode cX14_word 266 = .ok (.invokevirtual 102, 3) := by decide +kernel
theorem dr_cX14_word_269 : decode cX14_word 269 = .ok (.ldc 100, 2) := by decide +kernel
theorem dr_cX14_word_271 : decode cX14_word 271 = .ok (.invokevirtual 102, 3) := by decide +kernel
theorem dr_cX14_word_274 : decode cX14_word 274 = .ok (.invokevirtual 94, 3) := by decide +kernel
theorem dr_cX14_word_277 : decode cX14_word 277 = .ok (.invokevirtual 105, 3) := by decide +kernel
theorem dr_cX14_word_280 : decode cX14_word 280 = .ok (.ifCond .lt 8, 3) := by decide +kernel
theorem dr_cX14_word_288 : decode cX14_word 288 = .ok (.return_, 1) := by decide +kernel
theorem dr_cX14_word_283 : decode cX14_word 283 = .ok (.aload_n 0, 1) := by decide +kernel
theorem dr_cX14_word_284 : decode cX14_word 284 = .ok (.iconst 1, 1) := by decide +kernel
theorem dr_cX14_word_285 : decode cX14_word 285 = .ok (.putfield 38, 3) := by decide +kernel
theorem dr_cX14_word_197 : decode cX14_word 197 = .ok (.aload_n 0, 1) := by decide +kernel
theorem dr_cX14_word_198 : decode cX14_word 198 = .ok (.getfield 28, 3) := by decide +kernel
theorem dr_cX14_word_201 : decode cX14_word 201 = .ok (.aload_n 0, 1) := by decide +kernel
theorem dr_cX14_word_202 : decode cX14_word 202 = .ok (.getfield 44, 3) := by decide +kernel
theorem dr_cX14_word_205 : decode cX14_word 205 = .ok (.baload, 1) := by decide +kernel
theorem dr_cX14_word_206 : decode cX14_word 206 = .ok (.invokestatic 54, 3) := by decide +kernel
theorem wr_7_222 : (Jvm.Cond.methodLink "SpillForgeModel$Reader" (54 : Nat) ({ cls := "SpillForgeModel$Reader", name := "isLetter", desc := "(I)Z" } : Jvm.MethodName)) ∈ gw := gw_7 222 rfl rfl
theorem wr_7_224 : (Jvm.Cond.code ({ cls := "SpillForgeModel$Reader", name := "isLetter", desc := "(I)Z" } : Jvm.MethodName) prog_17_method_3_code (1 : Nat) (Option.some Jvm.ClassFile.FieldType.boolean)) ∈ gw := gw_7 224 rfl rfl
theorem wr_7_223 : (Jvm.Cond.static ({ cls := "SpillForgeModel$Reader", name := "isLetter", desc := "(I)Z" } : Jvm.MethodName)) ∈ gw := gw_7 223 rfl rfl
theorem dr_cX14_word_209 : decode cX14_word 209 = .ok (.ifCond .eq 31, 3) := by decide +kernel
theorem dr_cX14_word_212 : decode cX14_word 212 = .ok (.aload_n 2, 1) := by decide +kernel
theorem dr_cX14_word_213 : decode cX14_word 213 = .ok (.aload_n 0, 1) := by decide +kernel
theorem dr_cX14_word_214 : decode cX14_word 214 = .ok (.getfield 28, 3) := by decide +kernel
theorem dr_cX14_word_217 : decode cX14_word 217 = .ok (.aload_n 0, 1) := by decide +kernel
theorem dr_cX14_word_218 : decode cX14_word 218 = .ok (.getfield 44, 3) := by decide +kernel
theorem dr_cX14_word_221 : decode cX14_word 221 = .ok (.baload, 1) := by decide +kernel
theorem dr_cX14_word_222 : decode cX14_word 222 = .ok (.i2c, 1) := by decide +kernel
theorem dr_cX14_word_223 : decode cX14_word 223 = .ok (.invokevirtual 90, 3) := by decide +kernel
theorem dr_cX14_word_226 : decode cX14_word 226 = .ok (.pop, 1) := by decide +kernel
theorem dr_cX14_word_227 : decode cX14_word 227 = .ok (.aload_n 0, 1) := by decide +kernel
theorem dr_cX14_word_228 : decode cX14_word 228 = .ok (.dup, 1) := by decide +kernel
theorem dr_cX14_word_229 : decode cX14_word 229 = .ok (.getfield 44, 3) := by decide +kernel
theorem dr_cX14_word_232 : decode cX14_word 232 = .ok (.iconst 1, 1) := by decide +kernel
theorem dr_cX14_word_233 : decode cX14_word 233 = .ok (.iadd, 1) := by decide +kernel
theorem dr_cX14_word_234 : decode cX14_word 234 = .ok (.putfield 44, 3) := by decide +kernel
theorem dr_cX14_word_237 : decode cX14_word 237 = .ok (.goto (-51), 3) := by decide +kernel
theorem dr_cX14_word_16 : decode cX14_word 16 = .ok (.iload_n 1, 1) := by decide +kernel
theorem dr_cX14_word_17 : decode cX14_word 17 = .ok (.bipush 118, 2) := by decide +kernel
theorem dr_cX14_word_19 : decode cX14_word 19 = .ok (.if_icmp .eq 9, 3) := by decide +kernel
theorem dr_cX14_word_28 : decode cX14_word 28 = .ok (.aload_n 0, 1) := by decide +kernel
theorem dr_cX14_word_29 : decode cX14_word 29 = .ok (.getfield 44, 3) := by decide +kernel
theorem dr_cX14_word_32 : decode cX14_word 32 = .ok (.iconst 1, 1) := by decide +kernel
theorem dr_cX14_word_33 : decode cX14_word 33 = .ok (.iadd, 1) := by decide +kernel
theorem dr_cX14_word_34 : decode cX14_word 34 = .ok (.aload_n 0, 1) := by decide +kernel
theorem dr_cX14_word_35 : decode cX14_word 35 = .ok (.getfield 32, 3) := by decide +kernel
theorem dr_cX14_word_38 : decode cX14_word 38 = .ok (.if_icmp .ge 140, 3) := by decide +kernel
theorem dr_cX14_word_41 : decode cX14_word 41 = .ok (.aload_n 0, 1) := by decide +kernel
theorem dr_cX14_word_42 : decode cX14_word 42 = .ok (.getfield 28, 3) := by decide +kernel
theorem dr_cX14_word_45 : decode cX14_word 45 = .ok (.aload_n 0, 1) := by decide +kernel
theorem dr_cX14_word_46 : decode cX14_word 46 = .ok (.getfield 44, 3) := by decide +kernel
theorem dr_cX14_word_49 : decode cX14_word 49 = .ok (.iconst 1, 1) := by decide +kernel
theorem dr_cX14_word_50 : decode cX14_word 50 = .ok (.iadd, 1) := by decide +kernel
theorem dr_cX14_word_51 : decode cX14_word 51 = .ok (.baload, 1) := by decide +kernel
theorem dr_cX14_word_52 : decode cX14_word 52 = .ok (.invokestatic 50, 3) := by decide +kernel
theorem dr_cX14_word_55 : decode cX14_word 55 = .ok (.ifCond .eq 123, 3) := by decide +kernel
theorem dr_cX14_word_58 : decode cX14_word 58 = .ok (.lconst 0, 1) := by decide +kernel
theorem dr_cX14_word_59 : decode cX14_word 59 = .ok (.lstore_n 2, 1) := by decide +kernel
theorem dr_cX14_word_60 : decode cX14_word 60 = .ok (.aload_n 0, 1) := by decide +kernel
theorem dr_cX14_word_61 : decode cX14_word 61 = .ok (.dup, 1) := by decide +kernel
theorem dr_cX14_word_62 : decode cX14_word 62 = .ok (.getfield 44, 3) := by decide +kernel
theorem dr_cX14_word_65 : decode cX14_word 65 = .ok (.iconst 1, 1) := by decide +kernel
theorem dr_cX14_word_66 : decode cX14_word 66 = .ok (.iadd, 1) := by decide +kernel
theorem dr_cX14_word_67 : decode cX14_word 67 = .ok (.putfield 44, 3) := by decide +kernel
theorem dr_cX14_word_70 : decode cX14_word 70 = .ok (.aload_n 0, 1) := by decide +kernel
theorem dr_cX14_word_71 : decode cX14_word 71 = .ok (.getfield 44, 3) := by decide +kernel
theorem dr_cX14_word_74 : decode cX14_word 74 = .ok (.aload_n 0, 1) := by decide +kernel
theorem dr_cX14_word_75 : decode cX14_word 75 = .ok (.getfield 32, 3) := by decide +kernel
theorem dr_cX14_word_78 : decode cX14_word 78 = .ok (.if_icmp .ge 58, 3) := by decide +kernel
theorem dr_cX14_word_136 : decode cX14_word 136 = .ok (.aload_n 0, 1) := by decide +kernel
theorem dr_cX14_word_137 : decode cX14_word 137 = .ok (.lload_n 2, 1) := by decide +kernel
theorem dr_cX14_word_138 : decode cX14_word 138 = .ok (.l2i, 1) := by decide +kernel
theorem dr_cX14_word_139 : decode cX14_word 139 = .ok (.putfield 80, 3) := by decide +kernel
theorem dr_cX14_word_142 : decode cX14_word 142 = .ok (.lload_n 2, 1) := by decide +kernel
theorem dr_cX14_word_143 : decode cX14_word 143 = .ok (.iload_n 1, 1) := by decide +kernel
theorem dr_cX14_word_144 : decode cX14_word 144 = .ok (.bipush 118, 2) := by decide +kernel
theorem dr_cX14_word_146 : decode cX14_word 146 = .ok (.if_icmp .ne 9, 3) := by decide +kernel
theorem dr_cX14_word_149 : decode cX14_word 149 = .ok (.ldc2_w 83, 3) := by decide +kernel
theorem wr_7_233 : (Jvm.Cond.constantLong "SpillForgeModel$Reader" (83 : Nat) (99 : Int64)) ∈ gw := gw_7 233 rfl rfl
theorem dr_cX14_word_152 : decode cX14_word 152 = .ok (.goto 6, 3) := by decide +kernel
theorem dr_cX14_word_158 : decode cX14_word 158 = .ok (.lcmp, 1) := by decide +kernel
theorem dr_cX14_word_159 : decode cX14_word 159 = .ok (.ifCond .gt 18, 3) := by decide +kernel
theorem dr_cX14_word_177 : decode cX14_word 177 = .ok (.return_, 1) := by decide +kernel
theorem dr_cX14_word_162 : decode cX14_word 162 = .ok (.aload_n 0, 1) := by decide +kernel
theorem dr_cX14_word_163 : decode cX14_word 163 = .ok (.iload_n 1, 1) := by decide +kernel
theorem dr_cX14_word_164 : decode cX14_word 164 = .ok (.bipush 118, 2) := by decide +kernel
theorem dr_cX14_word_166 : decode cX14_word 166 = .ok (.if_icmp .ne 7, 3) := by decide +kernel
theorem dr_cX14_word_169 : decode cX14_word 169 = .ok (.iconst 2, 1) := by decide +kernel
theorem dr_cX14_word_170 : decode cX14_word 170 = .ok (.goto 4, 3) := by decide +kernel
theorem dr_cX14_word_174 : decode cX14_word 174 = .ok (.putfield 38, 3) := by decide +kernel
theorem dr_cX14_word_81 : decode cX14_word 81 = .ok (.aload_n 0, 1) := by decide +kernel
theorem dr_cX14_word_82 : decode cX14_word 82 = .ok (.getfield 28, 3) := by decide +kernel
theorem dr_cX14_word_85 : decode cX14_word 85 = .ok (.aload_n 0, 1) := by decide +kernel
theorem dr_cX14_word_86 : decode cX14_word 86 = .ok (.getfield 44, 3) := by decide +kernel
theorem dr_cX14_word_89 : decode cX14_word 89 = .ok (.baload, 1) := by decide +kernel
theorem dr_cX14_word_90 : decode cX14_word 90 = .ok (.invokestatic 50, 3) := by decide +kernel
theorem dr_cX14_word_93 : decode cX14_word 93 = .ok (.ifCond .eq 43, 3) := by decide +kernel
theorem dr_cX14_word_96 : decode cX14_word 96 = .ok (.lload_n 2, 1) := by decide +kernel
theorem dr_cX14_word_97 : decode cX14_word 97 = .ok (.ldc2_w 68, 3) := by decide +kernel
theorem dr_cX14_word_100 : decode cX14_word 100 = .ok (.lmul, 1) := by decide +kernel
theorem dr_cX14_word_101 : decode cX14_word 101 = .ok (.aload_n 0, 1) := by decide +kernel
theorem dr_cX14_word_102 : decode cX14_word 102 = .ok (.getfield 28, 3) := by decide +kernel
theorem dr_cX14_word_105 : decode cX14_word 105 = .ok (.aload_n 0, 1) := by decide +kernel
theorem dr_cX14_word_106 : decode cX14_word 106 = .ok (.getfield 44, 3) := by decide +kernel
theorem dr_cX14_word_109 : decode cX14_word 109 = .ok (.baload, 1) := by decide +kernel
theorem dr_cX14_word_110 : decode cX14_word 110 = .ok (.i2l, 1) := by decide +kernel
theorem dr_cX14_word_111 : decode cX14_word 111 = .ok (.ladd, 1) := by decide +kernel
theorem dr_cX14_word_112 : decode cX14_word 112 = .ok (.ldc2_w 70, 3) := by decide +kernel
theorem dr_cX14_word_115 : decode cX14_word 115 = .ok (.lsub, 1) := by decide +kernel
theorem dr_cX14_word_116 : decode cX14_word 116 = .ok (.ldc2_w 72, 3) := by decide +kernel
theorem wr_7_231 : (Jvm.Cond.constantLong "SpillForgeModel$Reader" (72 : Nat) (1000000 : Int64)) ∈ gw := gw_7 231 rfl rfl
theorem dr_cX14_word_119 : decode cX14_word 119 = .ok (.invokestatic 74, 3) := by decide +kernel
theorem dr_cX14_word_122 : decode cX14_word 122 = .ok (.lstore_n 2, 1) := by decide +kernel
theorem dr_cX14_word_123 : decode cX14_word 123 = .ok (.aload_n 0, 1) := by decide +kernel
theorem dr_cX14_word_124 : decode cX14_word 124 = .ok (.dup, 1) := by decide +kernel
theorem dr_cX14_word_125 : decode cX14_word 125 = .ok (.getfield 44, 3) := by decide +kernel
theorem dr_cX14_word_128 : decode cX14_word 128 = .ok (.iconst 1, 1) := by decide +kernel
theorem dr_cX14_word_129 : decode cX14_word 129 = .ok (.iadd, 1) := by decide +kernel
theorem dr_cX14_word_130 : decode cX14_word 130 = .ok (.putfield 44, 3) := by decide +kernel
theorem dr_cX14_word_133 : decode cX14_word 133 = .ok (.goto (-63), 3) := by decide +kernel
theorem dr_cX14_word_22 : decode cX14_word 22 = .ok (.iload_n 1, 1) := by decide +kernel
theorem dr_cX14_word_23 : decode cX14_word 23 = .ok (.bipush 98, 2) := by decide +kernel
theorem dr_cX14_word_25 : decode cX14_word 25 = .ok (.if_icmp .ne 153, 3) := by decide +kernel
theorem dr_cX14_word_155 : decode cX14_word 155 = .ok (.ldc2_w 85, 3) := by decide +kernel
theorem wr_7_234 : (Jvm.Cond.constantLong "SpillForgeModel$Reader" (85 : Nat) (39 : Int64)) ∈ gw := gw_7 234 rfl rfl
theorem dr_cX14_word_173 : decode cX14_word 173 = .ok (.iconst 3, 1) := by decide +kernel
abbrev ky_651515_Reader_isLetter : gKey := (cX14_isLetter, 1, "SpillForgeModel$Reader", (some FieldType.boolean), [], "isLetter", fun _ _ => True)
def pp_651515_Reader_isLetter (D : va_G) (I : FieldType → ClassId) (P651512 : List Nat) (F651513 : Nat → va_E) (p651514 : Int32) : Option Value → va_W → Nat → Nat → Prop := fun r w dc ds => ∃ (o651522 : Int32), r = some (.int o651522) ∧ w = va_pl P651512 F651513 ∧ dc ≤ 0 ∧ ds ≤ 0 ∧ gB o651522 0 1 ∧ isP p651514 97 122 o651522
set_option maxRecDepth 100000 in
set_option maxHeartbeats 4000000 in
theorem cp_651515_Reader_isLetter (l : Launch) (hl0 : l.stackTraces = false) (D : va_G) (I : FieldType → ClassId) (P651512 : List Nat) (F651513 : Nat → va_E) (p651514 : Int32)  : CtA (gV D I) l yX14_isLetter cX14_isLetter 1 (some FieldType.boolean) 0 0 0 0 [.int p651514] (va_pl P651512 F651513) (pp_651515_Reader_isLetter D I P651512 F651513 p651514) gNA := by
  refine CtA_of hl0 (by decide) (Nat.le_of_ble_eq_true rfl) ?_
  have bp651514 := gB_any p651514
  refine G_iload_n 0 dr_cX14_isLetter_0 rfl ?_
  refine G_bipush 97 dr_cX14_isLetter_1 (by decide +kernel) ?_
  refine G_icmp_lt 16 dr_cX14_isLetter_3 (by decide +kernel) (fun hc651516 => ?_) (fun hc651516 => ?_)
  · have r651517 : p651514.toInt < 97 := gj_lt hc651516 (show Int32.toInt 97 = 97 by decide)
    have bp651514' : gB p651514 (-2147483648) 96 := ⟨by omega, by omega⟩
    refine G_iconst 0 dr_cX14_isLetter_16 (by decide +kernel) ?_
    exact G_zretA FieldType.boolean dr_cX14_isLetter_17 rfl rfl (Nat.le_of_ble_eq_true rfl) (Nat.le_of_ble_eq_true rfl) ⟨0, rfl, rfl, (Nat.le_of_ble_eq_true rfl), (Nat.le_of_ble_eq_true rfl), (gB_w (gBl (show Int32.toInt 0 = 0 by decide)) (by decide) (by decide)), (isP_n (by omega))⟩
  · have r651518 : 97 ≤ p651514.toInt := gj_nlt hc651516 (show Int32.toInt 97 = 97 by decide)
    have bp651514' : gB p651514 97 2147483647 := ⟨by omega, by omega⟩
    refine G_iload_n 0 dr_cX14_isLetter_6 rfl ?_
    refine G_bipush 122 dr_cX14_isLetter_7 (by decide +kernel) ?_
    refine G_icmp_gt 16 dr_cX14_isLetter_9 (by decide +kernel) (fun hc651519 => ?_) (fun hc651519 => ?_)
    · have r651520 : 122 < p651514.toInt := gj_ltL hc651519 (show Int32.toInt 122 = 122 by decide)
      have bp651514'' : gB p651514 123 2147483647 := ⟨by omega, by omega⟩
      refine G_iconst 0 dr_cX14_isLetter_16 (by decide +kernel) ?_
      exact G_zretA FieldType.boolean dr_cX14_isLetter_17 rfl rfl (Nat.le_of_ble_eq_true rfl) (Nat.le_of_ble_eq_true rfl) ⟨0, rfl, rfl, (Nat.le_of_ble_eq_true rfl), (Nat.le_of_ble_eq_true rfl), (gB_w (gBl (show Int32.toInt 0 = 0 by decide)) (by decide) (by decide)), (isP_n (by omega))⟩
    · have r651521 : p651514.toInt ≤ 122 := gj_nltL hc651519 (show Int32.toInt 122 = 122 by decide)
      have bp651514'' : gB p651514 97 122 := ⟨by omega, by omega⟩
      refine G_iconst 1 dr_cX14_isLetter_12 (by decide +kernel) ?_
      refine G_goto 17 dr_cX14_isLetter_13 (by decide +kernel) ?_
      exact G_zretA FieldType.boolean dr_cX14_isLetter_17 rfl rfl (Nat.le_of_ble_eq_true rfl) (Nat.le_of_ble_eq_true rfl) ⟨1, rfl, rfl, (Nat.le_of_ble_eq_true rfl), (Nat.le_of_ble_eq_true rfl), (gB_w (gBl (show Int32.toInt 1 = 1 by decide)) (by decide) (by decide)), (isP_y (by omega) (by omega))⟩
abbrev ky_651843_AbstractStringBuilder_append : gKey := (cJ5_append_3fe6f, 2, "java/lang/AbstractStringBuilder", (some (FieldType.object "java/lang/AbstractStringBuilder")), [], "append", fun _ _ => True)
def pp_651843_AbstractStringBuilder_append (D : va_G) (I : FieldType → ClassId) (P651830 : List Nat) (F651831 : Nat → va_E) (q651832 : Nat) (q651833 : Nat) (p651834 : Int32) (p651835 : Int32) (p651836 : Int32) (f651837 : Nat → Int32) (n651838 : Nat) : Option Value → va_W → Nat → Nat → Prop := fun r w dc ds => ∃ (P651905 : List Nat) (F651906 : Nat → va_E) (o651901 : Int32) (q651902 : Nat) (n651903 : Nat) (f651904 : Nat → Int32), r = some (.ref q651832) ∧ w = va_pl P651905 F651906 ∧ rSub P651830 P651905 ∧ rFr [q651833, q651832] P651830 F651831 F651906 ∧ F651906 q651832 = .inr (1, [.ref q651902, .int 0, .int p651835, .int o651901]) ∧ F651906 q651902 = .inl (I .byte, n651903, .inl f651904) ∧ q651902 ∈ P651905 ∧ (q651902 = q651833 ∨ q651902 ∉ P651830) ∧ dc ≤ 1 ∧ ds ≤ 2 * (n651903 - n651838) ∧ gB o651901 1 16777216 ∧ gF f651904 (-128) 127 ∧ o651901.toInt = p651836.toInt + 1 ∧ o651901.toInt ≤ (n651903 : Int) ∧ (n651838 : Int) ≤ (n651903 : Int) ∧ (n651903 : Int) ≤ 2 * o651901.toInt + 16 ∧ (n651903 : Int) ≤ 2 * (n651838 : Int) + 2
set_option maxRecDepth 100000 in
set_option maxHeartbeats 4000000 in
theorem cp_651843_AbstractStringBuilder_append (l : Launch) (hl0 : l.stackTraces = false) (D : va_G) (I : FieldType → ClassId) (P651830 : List Nat) (F651831 : Nat → va_E) (q651832 : Nat) (q651833 : Nat) (p651834 : Int32) (p651835 : Int32) (p651836 : Int32) (f651837 : Nat → Int32) (n651838 : Nat) (hmq651832 : q651832 ∈ P651830) (hmq651833 : q651833 ∈ P651830) (heq651832 : F651831 q651832 = .inr (1, [.ref q651833, .int 0, .int p651835, .int p651836])) (heq651833 : F651831 q651833 = .inl (I .byte, n651838, .inl f651837)) (bp651834 : gB p651834 0 255) (bp651835 : gB p651835 0 1) (bp651836 : gB p651836 0 16777216) (bf651837 : gF f651837 (-128) 127) (x651839 : (n651838 : Int) ≤ 8388608 - 100000) (x651840 : p651836.toInt ≤ (n651838 : Int)) (x651841 : (n651838 : Int) ≤ 2 * p651836.toInt + 16) (x651842 : ((n651838 : Int) ≤ 16777216)) : CtA (gV D I) l yJ5_append_3fe6f cJ5_append_3fe6f 2 (some (FieldType.object "java/lang/AbstractStringBuilder")) 4 84 1 (4 * n651838 + 8) [.ref q651832, .int p651834] (va_pl P651830 F651831) (pp_651843_AbstractStringBuilder_append D I P651830 F651831 q651832 q651833 p651834 p651835 p651836 f651837 n651838) gNA := by
  refine CtA_ofF hl0 (by decide +kernel) (Nat.le_of_ble_eq_true rfl) ?_
  refine G_aload_n 0 dr_cJ5_append_3fe6f_0 rfl ?_
  refine G_aload_n 0 dr_cJ5_append_3fe6f_1 rfl ?_
  refine Gp_get 3 hmq651832 heq651832 dr_cJ5_append_3fe6f_2 (gk_J4 D I) (Nat.le_of_ble_eq_true rfl) wr_7_64 rfl ?_
  refine G_iconst 1 dr_cJ5_append_3fe6f_5 (by decide +kernel) ?_
  refine G_iadd dr_cJ5_append_3fe6f_6 (G_nam fun z651844 hz651844 => ?_)
  have ez651844 : z651844.toInt = p651836.toInt + 1 := by rw [gI_add hz651844 bp651836 (gBl (show Int32.toInt 1 = 1 by decide)) (by decide) (by decide), show Int32.toInt 1 = 1 from by decide]
  have bz651844 : gB z651844 1 16777217 := gB_add (gI_add hz651844 bp651836 (gBl (show Int32.toInt 1 = 1 by decide)) (by decide) (by decide)) bp651836 (gBl (show Int32.toInt 1 = 1 by decide)) (by decide) (by decide)
  refine Gw_callVB (As := [.int z651844]) (gV_ok D I) (cp_640241_AbstractStringBuilder_ensureCapacityInternal l hl0 D I P651830 F651831 q651832 q651833 z651844 p651835 p651836 f651837 n651838 hmq651832 hmq651833 heq651832 heq651833 ⟨by omega, by omega⟩ bp651835 bp651836 bf651837 (by have qa0 : Int32.toInt 0 = 0 := (by decide); omega) (by have qa0 : Int32.toInt 0 = 0 := (by decide); omega)) dr_cJ5_append_3fe6f_7 ⟨wr_8_4, wr_1_19, wr_8_7, by decide, rfl, (Nat.le_of_ble_eq_true rfl), (Nat.le_of_ble_eq_true rfl)⟩ wr_8_6 wr_s_0 hmq651832 heq651832 rfl (show 0 + 1 ≤ 1 by first | omega | decide) (show 0 + (2 * n651838 + 2 + z651844.toInt.toNat) ≤ (4 * n651838 + 8) by first | omega | decide) (Nat.le_of_ble_eq_true rfl) (fun r651848 w651849 dc651845 ds651846 hp651847 => ?_) (fun _ _ _ _ _ z => z.elim)
  obtain ⟨P651857, F651858, q651850, n651851, f651852, rfl, rfl, hsb651859, hfr651860, he651861, he651862, hm651863, hq651864, hdc, hds, bf651852, x651853, x651854, x651855, x651856⟩ := hp651847
  have hm651865 : q651832 ∈ P651857 := hsb651859 q651832 hmq651832
  have hm651866 : q651833 ∈ P651857 := hsb651859 q651833 hmq651833
  have hor651867 : q651850 = q651833 ∨ q651850 ∉ P651830 := hq651864.elim Or.inl (fun n => Or.inr (fun z => n ((rSub_rf (P := P651830)) _ z)))
  have hsb651868 : rSub P651830 P651857 := rSub_tr (rSub_rf (P := P651830)) hsb651859
  have he651869 : F651858 q651833 = .inl (I .byte, n651838, .inl f651837) := (hfr651860 q651833 hmq651833 (nm_c (rn_ao heq651833 heq651832) nm_n)).trans heq651833
  have hfr651870 : rFr [q651832] P651830 F651831 F651858 := rFr_call (rSub_rf (P := P651830)) (rFr_rf (W := []) (P := P651830) (F := F651831)) hfr651860 (fun b hb hn => ⟨nm_n, (nm_c (fun e => hn (e ▸ List.mem_cons_self)) nm_n)⟩)
  change G _ _ _ _ _ _ _ _ _ _ _
  refine G_widen (cs' := 1) (sl' := 2 * (n651851 - n651838)) (by omega) (by omega) ?_
  refine G_aload_n 0 dr_cJ5_append_3fe6f_10 rfl ?_
  refine Gw_callVB (As := []) (gV_ok D I) (cp_640145_AbstractStringBuilder_isLatin1 l hl0 D I P651857 F651858 q651832 q651850 p651835 p651836 f651852 n651851 hm651865 hm651863 he651861 he651862 bp651835 bp651836 bf651852 (by have qa0 : Int32.toInt 0 = 0 := (by decide); omega)) dr_cJ5_append_3fe6f_11 ⟨wr_8_33, wr_1_19, wr_8_37, by decide, rfl, (Nat.le_of_ble_eq_true rfl), (Nat.le_of_ble_eq_true rfl)⟩ wr_8_34 wr_8_36 hm651865 he651861 rfl (show 1 + 0 ≤ 1 by first | omega | decide) (show 2 * (n651851 - n651838) + 0 ≤ (4 * n651838 + 8) by first | omega | decide) (Nat.le_of_ble_eq_true rfl) (fun r651874 w651875 dc651871 ds651872 hp651873 => ?_) (fun _ _ _ _ _ z => z.elim)
  obtain ⟨rfl, rfl, hdc, hds⟩ := hp651873
  change G _ _ _ _ _ _ _ (.int 1 :: _) _ _ _
  refine G_widen (cs' := 1) (sl' := 2 * (n651851 - n651838) + 0) (by omega) (by omega) ?_
  refine G_if_eq 45 dr_cJ5_append_3fe6f_14 (by decide +kernel) (fun hc => absurd hc (by decide)) (fun _ => ?_)
  refine G_iload_n 1 dr_cJ5_append_3fe6f_17 rfl ?_
  refine Gw_callS (As := [.int p651834]) (gV_ok D I) (cp_640154_StringLatin1_canEncode l hl0 D I P651857 F651858 p651834 (gB_w bp651834 (by decide) (by decide))) dr_cJ5_append_3fe6f_18 ⟨wr_8_38, wr_1_28, wr_8_40, by decide, rfl, (Nat.le_of_ble_eq_true rfl), (Nat.le_of_ble_eq_true rfl)⟩ wr_8_39 (show 1 + 0 ≤ 1 by first | omega | decide) (show 2 * (n651851 - n651838) + 0 + 0 ≤ (4 * n651838 + 8) by first | omega | decide) (Nat.le_of_ble_eq_true rfl) (fun r651879 w651880 dc651876 ds651877 hp651878 => ?_) (fun _ _ _ _ _ z => z.elim)
  rcases hp651878 with ⟨rfl, rfl, hdc, hds, r651881⟩ | ⟨rfl, rfl, hdc, hds, r651882⟩
  · exact absurd (show False by omega) not_false
  · change G _ _ _ _ _ _ _ (.int 1 :: _) _ _ _
    refine G_widen (cs' := 1) (sl' := 2 * (n651851 - n651838) + 0 + 0) (by omega) (by omega) ?_
    refine G_if_eq 45 dr_cJ5_append_3fe6f_21 (by decide +kernel) (fun hc => absurd hc (by decide)) (fun _ => ?_)
    refine G_aload_n 0 dr_cJ5_append_3fe6f_24 rfl ?_
    refine Gp_get 0 hm651865 he651861 dr_cJ5_append_3fe6f_25 (gk_J4 D I) (Nat.le_of_ble_eq_true rfl) wr_7_60 rfl ?_
    refine G_aload_n 0 dr_cJ5_append_3fe6f_28 rfl ?_
    refine G_dup dr_cJ5_append_3fe6f_29 rfl ?_
    refine Gp_get 3 hm651865 he651861 dr_cJ5_append_3fe6f_30 (gk_J4 D I) (Nat.le_of_ble_eq_true rfl) wr_7_64 rfl ?_
    refine G_dup_x1 dr_cJ5_append_3fe6f_33 rfl rfl ?_
    refine G_iconst 1 dr_cJ5_append_3fe6f_34 (by decide +kernel) ?_
    refine G_iadd dr_cJ5_append_3fe6f_35 (G_nam fun z651884 hz651884 => ?_)
    have ez651884 : z651884.toInt = p651836.toInt + 1 := by rw [gI_add hz651884 bp651836 (gBl (show Int32.toInt 1 = 1 by decide)) (by decide) (by decide), show Int32.toInt 1 = 1 from by decide]
    have bz651884 : gB z651884 1 16777217 := gB_add (gI_add hz651884 bp651836 (gBl (show Int32.toInt 1 = 1 by decide)) (by decide) (by decide)) bp651836 (gBl (show Int32.toInt 1 = 1 by decide)) (by decide) (by decide)
    refine Gp_put 3 hm651865 he651861 dr_cJ5_append_3fe6f_36 (gk_J4 D I) (Nat.le_of_ble_eq_true rfl) wr_7_64 rfl rfl rfl (Nat.le_of_ble_eq_true rfl) (fun F651885 e651886 n651887 => ?_)
    have he651888 : F651885 q651833 = .inl (I .byte, n651838, .inl f651837) := (n651887 q651833 (rn_ao he651869 he651861)).trans he651869
    have he651889 : F651885 q651850 = .inl (I .byte, n651851, .inl f651852) := (n651887 q651850 (rn_ao he651862 he651861)).trans he651862
    have he651890 : F651885 q651832 = .inr (1, [.ref q651850, .int 0, .int p651835, .int z651884]) := e651886
    have hfr651891 : rFr [q651832] P651830 F651831 F651885 := rFr_put' List.mem_cons_self hfr651870 n651887
    refine G_iload_n 1 dr_cJ5_append_3fe6f_39 rfl ?_
    refine G_i2b dr_cJ5_append_3fe6f_40 (G_nam fun z651892 hz651892 => ?_)
    have bz651892 : gB z651892 (-128) 127 := gB_i2b hz651892
    refine Gp_bast 1 hm651863 he651889 dr_cJ5_append_3fe6f_41 rfl (gB_inr (by omega) (by omega)) (fun F651893 e651894 n651895 => ?_)
    obtain ⟨f651896, hf651896⟩ : ∃ z, z = upd f651852 p651836.toNatClampNeg (vp_nar .byte z651892) := ⟨_, rfl⟩
    rw [← hf651896] at e651894
    have he651898 : F651893 q651832 = .inr (1, [.ref q651850, .int 0, .int p651835, .int z651884]) := (n651895 q651832 (rn_oa he651890 he651889)).trans he651890
    have he651899 : F651893 q651850 = .inl (I .byte, n651851, .inl f651896) := e651894
    have hfr651900 : rFr [q651833, q651832] P651830 F651831 F651893 := rFr_eit hor651867 hfr651891 n651895
    have bf651896 : gF f651896 (-128) 127 := gF_upd hf651896 bf651852 gB_byte
    refine G_goto 75 dr_cJ5_append_3fe6f_42 (by decide +kernel) ?_
    refine G_aload_n 0 dr_cJ5_append_3fe6f_75 rfl ?_
    exact G_aretA (FieldType.object "java/lang/AbstractStringBuilder") dr_cJ5_append_3fe6f_76 rfl (by first | exact Or.inl ⟨_, rfl⟩ | exact Or.inr ⟨_, rfl⟩) (Or.inr ⟨_, rfl⟩) (Nat.le_of_ble_eq_true rfl) (show 2 * (n651851 - n651838) + 0 + 0 ≤ (4 * n651838 + 8) by omega) ⟨P651857, F651893, z651884, q651850, n651851, f651896, rfl, rfl, hsb651868, hfr651900, he651898, he651899, hm651863, hor651867, (Nat.le_of_ble_eq_true rfl), (by omega), ⟨by omega, by omega⟩, bf651896, (by have qa0 : Int32.toInt 0 = 0 := (by decide); omega), (by have qa0 : Int32.toInt 0 = 0 := (by decide); omega), (by have qa0 : Int32.toInt 0 = 0 := (by decide); omega), (by have qa0 : Int32.toInt 0 = 0 := (by decide); omega), (by have qa0 : Int32.toInt 0 = 0 := (by decide); omega)⟩
abbrev ky_651829_StringBuilder_append : gKey := (cJ4_append_cf468, 2, "java/lang/StringBuilder", (some (FieldType.object "java/lang/StringBuilder")), [], "append", fun _ _ => True)
def pp_651829_StringBuilder_append (D : va_G) (I : FieldType → ClassId) (P651816 : List Nat) (F651817 : Nat → va_E) (q651818 : Nat) (q651819 : Nat) (p651820 : Int32) (p651821 : Int32) (p651822 : Int32) (f651823 : Nat → Int32) (n651824 : Nat) : Option Value → va_W → Nat → Nat → Prop := fun r w dc ds => ∃ (P651938 : List Nat) (F651939 : Nat → va_E) (o651934 : Int32) (q651935 : Nat) (n651936 : Nat) (f651937 : Nat → Int32), r = some (.ref q651818) ∧ w = va_pl P651938 F651939 ∧ rSub P651816 P651938 ∧ rFr [q651819, q651818] P651816 F651817 F651939 ∧ F651939 q651818 = .inr (1, [.ref q651935, .int 0, .int p651821, .int o651934]) ∧ F651939 q651935 = .inl (I .byte, n651936, .inl f651937) ∧ q651935 ∈ P651938 ∧ (q651935 = q651819 ∨ q651935 ∉ P651816) ∧ dc ≤ 1 ∧ ds ≤ 2 * (n651936 - n651824) ∧ gB o651934 1 16777216 ∧ gF f651937 (-128) 127 ∧ o651934.toInt = p651822.toInt + 1 ∧ o651934.toInt ≤ (n651936 : Int) ∧ (n651824 : Int) ≤ (n651936 : Int) ∧ (n651936 : Int) ≤ 2 * o651934.toInt + 16 ∧ (n651936 : Int) ≤ 2 * (n651824 : Int) + 2
set_option maxRecDepth 100000 in
set_option maxHeartbeats 4000000 in
theorem cp_651829_StringBuilder_append (l : Launch) (hl0 : l.stackTraces = false) (D : va_G) (I : FieldType → ClassId) (P651816 : List Nat) (F651817 : Nat → va_E) (q651818 : Nat) (q651819 : Nat) (p651820 : Int32) (p651821 : Int32) (p651822 : Int32) (f651823 : Nat → Int32) (n651824 : Nat) (hmq651818 : q651818 ∈ P651816) (hmq651819 : q651819 ∈ P651816) (heq651818 : F651817 q651818 = .inr (1, [.ref q651819, .int 0, .int p651821, .int p651822])) (heq651819 : F651817 q651819 = .inl (I .byte, n651824, .inl f651823)) (bp651820 : gB p651820 0 255) (bp651821 : gB p651821 0 1) (bp651822 : gB p651822 0 16777216) (bf651823 : gF f651823 (-128) 127) (x651825 : (n651824 : Int) ≤ 8388608 - 100000) (x651826 : p651822.toInt ≤ (n651824 : Int)) (x651827 : (n651824 : Int) ≤ 2 * p651822.toInt + 16) (x651828 : ((n651824 : Int) ≤ 16777216)) : CtA (gV D I) l yJ4_append_cf468 cJ4_append_cf468 2 (some (FieldType.object "java/lang/StringBuilder")) 5 105 1 (4 * n651824 + 8) [.ref q651818, .int p651820] (va_pl P651816 F651817) (pp_651829_StringBuilder_append D I P651816 F651817 q651818 q651819 p651820 p651821 p651822 f651823 n651824) gNA := by
  refine CtA_ofF hl0 (by decide +kernel) (Nat.le_of_ble_eq_true rfl) ?_
  refine G_aload_n 0 dr_cJ4_append_cf468_0 rfl ?_
  refine G_iload_n 1 dr_cJ4_append_cf468_1 rfl ?_
  refine Gw_callSU (As := [.int p651820]) (gV_ok D I) (cp_651843_AbstractStringBuilder_append l hl0 D I P651816 F651817 q651818 q651819 p651820 p651821 p651822 f651823 n651824 hmq651818 hmq651819 heq651818 heq651819 bp651820 bp651821 bp651822 bf651823 (by have qa0 : Int32.toInt 0 = 0 := (by decide); omega) (by have qa0 : Int32.toInt 0 = 0 := (by decide); omega) (by have qa0 : Int32.toInt 0 = 0 := (by decide); omega) (by have qa0 : Int32.toInt 0 = 0 := (by decide); omega)) dr_cJ4_append_cf468_2 ⟨wr_8_1, wr_1_19, wr_8_3, by decide, rfl, (Nat.le_of_ble_eq_true rfl), (Nat.le_of_ble_eq_true rfl)⟩ wr_8_2 wr_11_224 wr_7_73 wr_7_44 (by decide) hmq651818 heq651818 rfl (show 0 + 1 ≤ 1 by first | omega | decide) (show 0 + (4 * n651824 + 8) ≤ (4 * n651824 + 8) by first | omega | decide) (Nat.le_of_ble_eq_true rfl) (fun r651910 w651911 dc651907 ds651908 hp651909 => ?_)
  obtain ⟨P651921, F651922, o651912, q651913, n651914, f651915, rfl, rfl, hsb651923, hfr651924, he651925, he651926, hm651927, hq651928, hdc, hds, bo651912, bf651915, x651916, x651917, x651918, x651919, x651920⟩ := hp651909
  have hm651929 : q651818 ∈ P651921 := hsb651923 q651818 hmq651818
  have hm651930 : q651819 ∈ P651921 := hsb651923 q651819 hmq651819
  have hor651931 : q651913 = q651819 ∨ q651913 ∉ P651816 := hq651928.elim Or.inl (fun n => Or.inr (fun z => n ((rSub_rf (P := P651816)) _ z)))
  have hsb651932 : rSub P651816 P651921 := rSub_tr (rSub_rf (P := P651816)) hsb651923
  have hfr651933 : rFr [q651819, q651818] P651816 F651817 F651922 := rFr_call (rSub_rf (P := P651816)) (rFr_rf (W := []) (P := P651816) (F := F651817)) hfr651924 (fun b hb hn => ⟨nm_n, (nm_c (fun e => hn (e ▸ List.mem_cons_self)) (nm_c (fun e => hn (e ▸ (List.mem_cons_of_mem _ List.mem_cons_self))) nm_n))⟩)
  change G _ _ _ _ _ _ _ (.ref q651818 :: _) _ _ _
  refine G_widen (cs' := 1) (sl' := 2 * (n651914 - n651824)) (by omega) (by omega) ?_
  refine G_pop dr_cJ4_append_cf468_5 rfl ?_
  refine G_aload_n 0 dr_cJ4_append_cf468_6 rfl ?_
  exact G_aretA (FieldType.object "java/lang/StringBuilder") dr_cJ4_append_cf468_7 rfl (by first | exact Or.inl ⟨_, rfl⟩ | exact Or.inr ⟨_, rfl⟩) (Or.inr ⟨_, rfl⟩) (Nat.le_of_ble_eq_true rfl) (show 2 * (n651914 - n651824) ≤ (4 * n651824 + 8) by omega) ⟨P651921, F651922, o651912, q651913, n651914, f651915, rfl, rfl, hsb651932, hfr651933, he651925, he651926, hm651927, hor651931, (Nat.le_of_ble_eq_true rfl), (by omega), bo651912, bf651915, (by have qa0 : Int32.toInt 0 = 0 := (by decide); omega), (by have qa0 : Int32.toInt 0 = 0 := (by decide); omega), (by have qa0 : Int32.toInt 0 = 0 := (by decide); omega), (by have qa0 : Int32.toInt 0 = 0 := (by decide); omega), (by have qa0 : Int32.toInt 0 = 0 := (by decide); omega)⟩
abbrev ky_651181_Reader_word : gKey := (cX14_word, 4, "SpillForgeModel$Reader", none, [], "word", fun _ _ => True)
def pp_651181_Reader_word (D : va_G) (I : FieldType → ClassId) (P651158 : List Nat) (F651159 : Nat → va_E) (q651160 : Nat) (q651161 : Nat) (p651162 : Int32) (p651163 : Int32) (p651164 : Int32) (p651165 : Int32) (p651166 : Int32) (p651167 : Int32) (qo651168 : Nat) (p651169 : Int32) (p651170 : Int32) (p651171 : Int32) (qo651172 : Nat) (qo651173 : Nat) (p651174 : Int32) (f651175 : Nat → Int32) : Option Value → va_W → Nat → Nat → Prop := fun r w dc ds => ∃ (P653725 : List Nat) (F653726 : Nat → va_E) (o653721 : Int32) (o653722 : Int32) (o653723 : Int32) (q653724 : Nat), r = none ∧ w = va_pl P653725 F653726 ∧ rSub P651158 P653725 ∧ rFr [q651160] P651158 F651159 F653726 ∧ F653726 q651160 = .inr (19, [.ref q651161, .int p651162, .int o653721, .int o653722, .int p651165, .int o653723, .int p651167, .ref q653724, .int p651169, .int p651170, .int p651171, .ref qo651172, .ref qo651173, .int p651174]) ∧ F653726 q651161 = .inl (I .byte, 8192, .inl f651175) ∧ dc ≤ (16 * (o653721.toInt - p651163.toInt)).toNat ∧ ds ≤ (256 * (o653721.toInt - p651163.toInt)).toNat ∧ gB o653721 0 8192 ∧ gB o653722 1 6 ∧ p651163.toInt < o653721.toInt ∧ o653721.toInt ≤ p651162.toInt ∧ tP I P653725 F653726 o653722 q653724 qo651173 qo651172 ∧ vP o653722 o653723
set_option maxRecDepth 100000 in
set_option maxHeartbeats 4000000 in
theorem cp_651181_Reader_word (l : Launch) (hl0 : l.stackTraces = false) (D : va_G) (I : FieldType → ClassId) (P651158 : List Nat) (F651159 : Nat → va_E) (q651160 : Nat) (q651161 : Nat) (p651162 : Int32) (p651163 : Int32) (p651164 : Int32) (p651165 : Int32) (p651166 : Int32) (p651167 : Int32) (qo651168 : Nat) (p651169 : Int32) (p651170 : Int32) (p651171 : Int32) (qo651172 : Nat) (qo651173 : Nat) (p651174 : Int32) (f651175 : Nat → Int32) (hmq651160 : q651160 ∈ P651158) (hmq651161 : q651161 ∈ P651158) (heq651160 : F651159 q651160 = .inr (19, [.ref q651161, .int p651162, .int p651163, .int p651164, .int p651165, .int p651166, .int p651167, .ref qo651168, .int p651169, .int p651170, .int p651171, .ref qo651172, .ref qo651173, .int p651174])) (heq651161 : F651159 q651161 = .inl (I .byte, 8192, .inl f651175)) (bp651162 : gB p651162 0 8192) (bp651163 : gB p651163 0 8192) (bp651164 : gB p651164 0 6) (bp651165 : gB p651165 0 8192) (bp651167 : gB p651167 0 6) (bp651169 : gB p651169 (-1) 8192) (bp651170 : gB p651170 0 4) (bp651171 : gB p651171 0 1000000) (bp651174 : gB p651174 0 1000000) (bf651175 : gF f651175 (-128) 127) (x651176 : p651163.toInt ≤ p651162.toInt) (x651177 : p651163.toInt < p651162.toInt) (x651178 : cLt f651175 p651163) (x651179 : qo651173 ∈ P651158) (x651180 : qo651172 ∈ P651158) : CtA (gV D I) l yX14_word cX14_word 4 none 6 132 ((16 * (p651162.toInt - p651163.toInt)).toNat) ((256 * (p651162.toInt - p651163.toInt)).toNat) [.ref q651160] (va_pl P651158 F651159) (pp_651181_Reader_word D I P651158 F651159 q651160 q651161 p651162 p651163 p651164 p651165 p651166 p651167 qo651168 p651169 p651170 p651171 qo651172 qo651173 p651174 f651175) gNA := by
  refine CtA_of hl0 (by decide) (Nat.le_of_ble_eq_true rfl) ?_
  have bp651166 := gB_any p651166
  refine G_aload_n 0 dr_cX14_word_0 rfl ?_
  refine Gp_get 0 hmq651160 heq651160 dr_cX14_word_1 (gk_X14 D I) (Nat.le_of_ble_eq_true rfl) wr_9_36 rfl ?_
  refine G_aload_n 0 dr_cX14_word_4 rfl ?_
  refine Gp_get 2 hmq651160 heq651160 dr_cX14_word_5 (gk_X14 D I) (Nat.le_of_ble_eq_true rfl) wr_9_38 rfl ?_
  refine Gp_bald 1 hmq651161 heq651161 dr_cX14_word_8 rfl (gB_inr (by omega) (by omega)) (G_nam fun z651182 hz651182 => ?_)
  have bz651182 : gB z651182 (-128) 127 := by rw [hz651182]; exact bf651175 _
  refine G_istore_n (L' := [(1, .int z651182), (0, .ref q651160)]) dr_cX14_word_9 (Nat.le_of_ble_eq_true rfl) rfl ?_
  refine G_aload_n 1 dr_cX14_word_10 rfl ?_
  refine G_bipush 6 dr_cX14_word_11 (by decide +kernel) ?_
  refine Gp_put 3 hmq651160 heq651160 dr_cX14_word_13 (gk_X14 D I) (Nat.le_of_ble_eq_true rfl) wr_9_39 rfl rfl rfl (Nat.le_of_ble_eq_true rfl) (fun F651183 e651184 n651185 => ?_)
  have he651186 : F651183 q651161 = .inl (I .byte, 8192, .inl f651175) := (n651185 q651161 (rn_ao heq651161 heq651160)).trans heq651161
  have he651187 : F651183 q651160 = .inr (19, [.ref q651161, .int p651162, .int p651163, .int 6, .int p651165, .int p651166, .int p651167, .ref qo651168, .int p651169, .int p651170, .int p651171, .ref qo651172, .ref qo651173, .int p651174]) := e651184
  have hfr651188 : rFr [q651160] P651158 F651159 F651183 := rFr_put (rFr_rf (W := []) (P := P651158) (F := F651159)) n651185
  have jn651189 : G (gV D I) l (gRm 6 132 ((16 * (p651162.toInt - p651163.toInt)).toNat) ((256 * (p651162.toInt - p651163.toInt)).toNat)) (gMA (gV D I) (pp_651181_Reader_word D I P651158 F651159 q651160 q651161 p651162 p651163 p651164 p651165 p651166 p651167 qo651168 p651169 p651170 p651171 qo651172 qo651173 p651174 f651175) gNA ((16 * (p651162.toInt - p651163.toInt)).toNat) ((256 * (p651162.toInt - p651163.toInt)).toNat)) ky_651181_Reader_word 178 [(1, .int z651182), (0, .ref q651160)] [] (va_pl P651158 F651183) 0 0 := by
    refine G_new [.null, .int 0, .int 0, .int 0] dr_cX14_word_178 (gk_J4 D I) wr_7_235 wr_7_44 wr_1_20 (gfs_J4) (show 0 + 1 ≤ ((16 * (p651162.toInt - p651163.toInt)).toNat) by first | omega | decide) (show 0 + 4 ≤ ((256 * (p651162.toInt - p651163.toInt)).toNat) by first | omega | decide) (fun q651190 => Gp_in (fun P651191 F651192 hq651193 hP651194 e651195 n651196 => ?_))
    refine G_widen (cs' := 1) (sl' := 4) (by omega) (by omega) ?_
    have he651197 : F651192 q651160 = .inr (19, [.ref q651161, .int p651162, .int p651163, .int 6, .int p651165, .int p651166, .int p651167, .ref qo651168, .int p651169, .int p651170, .int p651171, .ref qo651172, .ref qo651173, .int p651174]) := (n651196 q651160 (fun h => hq651193 (h ▸ hmq651160))).trans he651187
    have he651198 : F651192 q651161 = .inl (I .byte, 8192, .inl f651175) := (n651196 q651161 (fun h => hq651193 (h ▸ hmq651161))).trans he651186
    have he651199 : F651192 q651190 = .inr (1, [.null, .int 0, .int 0, .int 0]) := e651195
    have hm651200 : q651160 ∈ P651191 := (hP651194 q651160).mpr (Or.inl hmq651160)
    have hm651201 : q651161 ∈ P651191 := (hP651194 q651161).mpr (Or.inl hmq651161)
    have hm651202 : q651190 ∈ P651191 := (hP651194 q651190).mpr (Or.inr rfl)
    have hq651203 : q651190 ∉ P651158 := fun z => hq651193 ((rSub_rf (P := P651158)) q651190 z)
    have hfr651204 : rFr [q651160] P651158 F651159 F651192 := rFr_new (rSub_rf (P := P651158)) hq651193 hfr651188 n651196
    have hsb651205 : rSub P651158 P651191 := rSub_new (rSub_rf (P := P651158)) hP651194
    refine G_dup dr_cX14_word_181 rfl ?_
    refine Gw_callI (As := []) (gV_ok D I) (cp_640525_StringBuilder_init l hl0 D I P651191 F651192 q651190 0 0 hm651202 he651199 (gB_w (gBl (show Int32.toInt 0 = 0 by decide)) (by decide) (by decide)) (gB_w (gBl (show Int32.toInt 0 = 0 by decide)) (by decide) (by decide))) dr_cX14_word_182 ⟨wr_7_236, wr_1_20, wr_7_47, by decide, rfl, (Nat.le_of_ble_eq_true rfl), (Nat.le_of_ble_eq_true rfl)⟩ wr_7_46 rfl (show 1 + 1 ≤ ((16 * (p651162.toInt - p651163.toInt)).toNat) by first | omega | decide) (show 4 + 16 ≤ ((256 * (p651162.toInt - p651163.toInt)).toNat) by first | omega | decide) (Nat.le_of_ble_eq_true rfl) (fun r651209 w651210 dc651206 ds651207 hp651208 => ?_)
    obtain ⟨P651212, F651213, q651211, rfl, rfl, hsb651214, hfr651215, he651216, he651217, hm651218, hq651219, hdc, hds⟩ := hp651208
    have hm651220 : q651160 ∈ P651212 := hsb651214 q651160 hm651200
    have hm651221 : q651161 ∈ P651212 := hsb651214 q651161 hm651201
    have hm651222 : q651190 ∈ P651212 := hsb651214 q651190 hm651202
    have hq651223 : q651211 ∉ P651158 := fun z => hq651219 (hsb651205 q651211 z)
    have hsb651224 : rSub P651158 P651212 := rSub_tr hsb651205 hsb651214
    have he651225 : F651213 q651160 = .inr (19, [.ref q651161, .int p651162, .int p651163, .int 6, .int p651165, .int p651166, .int p651167, .ref qo651168, .int p651169, .int p651170, .int p651171, .ref qo651172, .ref qo651173, .int p651174]) := (hfr651215 q651160 hm651200 (nm_c (fun h => hq651203 (h ▸ hmq651160)) nm_n)).trans he651197
    have he651226 : F651213 q651161 = .inl (I .byte, 8192, .inl f651175) := (hfr651215 q651161 hm651201 (nm_c (fun h => hq651203 (h ▸ hmq651161)) nm_n)).trans he651198
    have hfr651227 : rFr [q651160] P651158 F651159 F651213 := rFr_call hsb651205 hfr651204 hfr651215 (fun b hb hn => ⟨(nm_c (fun e => hn (e ▸ List.mem_cons_self)) nm_n), (nm_c (fun e => hq651203 (e ▸ hb)) nm_n)⟩)
    change G _ _ _ _ _ _ _ _ _ _ _
    refine G_widen (cs' := 2) (sl' := 20) (by omega) (by omega) ?_
    refine G_astore_n (L' := [(2, .ref q651190), (1, .int z651182), (0, .ref q651160)]) dr_cX14_word_185 (Nat.le_of_ble_eq_true rfl) rfl ?_
    refine G_widen (cs' := 2 + (0 : Int).toNat) (sl' := 4 + 2 * 16) (by omega) (by omega) ?_
    have hlp186_652638 : ∀ (n186_652638 : Nat) (P652628 : List Nat) (F652622 : Nat → va_E) (g652616 : Int32) (g652617 : Int32) (q652618 : Nat) (n652619 : Nat) (f652620 : Nat → Int32), gB g652616 0 8192 → gB g652617 0 16777216 → gF f652620 (-128) 127 → rSub P651158 P652628 → rFr [q651160] P651158 F651159 F652622 → q651160 ∈ P652628 → F652622 q651160 = .inr (19, [.ref q651161, .int p651162, .int g652616, .int 6, .int p651165, .int p651166, .int p651167, .ref qo651168, .int p651169, .int p651170, .int p651171, .ref qo651172, .ref qo651173, .int p651174]) → q651161 ∈ P652628 → F652622 q651161 = .inl (I .byte, 8192, .inl f651175) → q651190 ∈ P652628 → F652622 q651190 = .inr (1, [.ref q652618, .int 0, .int 0, .int g652617]) → q652618 ∈ P652628 → F652622 q652618 = .inl (I .byte, n652619, .inl f652620) → q652618 ∉ P651158 → p651163.toInt ≤ g652616.toInt → g652616.toInt ≤ p651162.toInt → g652617.toInt = g652616.toInt - p651163.toInt → g652617.toInt ≤ (n652619 : Int) → (n652619 : Int) ≤ 2 * g652617.toInt + 16 → ((8193 : Int) - g652616.toInt).toNat < n186_652638 → G (gV D I) l (gRm 6 132 ((16 * (p651162.toInt - p651163.toInt)).toNat) ((256 * (p651162.toInt - p651163.toInt)).toNat)) (gMA (gV D I) (pp_651181_Reader_word D I P651158 F651159 q651160 q651161 p651162 p651163 p651164 p651165 p651166 p651167 qo651168 p651169 p651170 p651171 qo651172 qo651173 p651174 f651175) gNA ((16 * (p651162.toInt - p651163.toInt)).toNat) ((256 * (p651162.toInt - p651163.toInt)).toNat)) ky_651181_Reader_word 186 [(2, .ref q651190), (1, .int z651182), (0, .ref q651160)] [] (va_pl P652628 F652622) (2 + (g652617.toInt : Int).toNat) (4 + 2 * n652619) := by
      intro n186_652638
      induction n186_652638 with
      | zero => intro P652628 F652622 g652616 g652617 q652618 n652619 f652620 bg652616 bg652617 bf652620 hsb652633 hfr652627 hm652629 he652623 hm652630 he652624 hm652631 he652625 hm652632 he652626 hq652621 x652634 x652635 x652636 x652637 x652638 hm186_652638; exact absurd hm186_652638 (Nat.not_lt_zero _)
      | succ n186_652638 ih186_652638 =>
        intro P652628 F652622 g652616 g652617 q652618 n652619 f652620 bg652616 bg652617 bf652620 hsb652633 hfr652627 hm652629 he652623 hm652630 he652624 hm652631 he652625 hm652632 he652626 hq652621 x652634 x652635 x652636 x652637 x652638 hm186_652638
        refine G_aload_n 2 dr_cX14_word_186 rfl ?_
        refine Gp_get 2 hm652629 he652623 dr_cX14_word_187 (gk_X14 D I) (Nat.le_of_ble_eq_true rfl) wr_9_38 rfl ?_
        refine G_aload_n 2 dr_cX14_word_190 rfl ?_
        refine Gp_get 1 hm652629 he652623 dr_cX14_word_191 (gk_X14 D I) (Nat.le_of_ble_eq_true rfl) wr_9_37 rfl ?_
        refine G_icmp_ge 240 dr_cX14_word_194 (by decide +kernel) (fun hc652639 => ?_) (fun hc652639 => ?_)
        · have r652640 : p651162.toInt ≤ g652616.toInt := gC_le hc652639
          have x652641 : p651163.toInt < g652616.toInt := by first | omega | exact cLt_lt x651178 (by assumption) (isP_0 (by assumption) (by omega)) (by omega)
          refine G_aload_n 2 dr_cX14_word_240 rfl ?_
          refine G_aload_n 0 dr_cX14_word_241 rfl ?_
          refine Gw_callV (As := []) (gV_ok D I) (cp_641280_StringBuilder_toString l hl0 D I P652628 F652622 q651190 q652618 0 g652617 f652620 n652619 hm652631 hm652632 he652625 he652626 (gB_w (gBl (show Int32.toInt 0 = 0 by decide)) (by decide) (by decide)) bg652617 bf652620 (by have qa0 : Int32.toInt 0 = 0 := (by decide); have qa1 : Int32.toInt 6 = 6 := (by decide); omega) (by have qa0 : Int32.toInt 0 = 0 := (by decide); have qa1 : Int32.toInt 6 = 6 := (by decide); omega)) dr_cX14_word_242 ⟨wr_8_66, wr_1_20, wr_8_69, by decide, rfl, (Nat.le_of_ble_eq_true rfl), (Nat.le_of_ble_eq_true rfl)⟩ wr_8_67 wr_8_68 hm652631 he652625 rfl (show 2 + (g652617.toInt : Int).toNat + 2 ≤ ((16 * (p651162.toInt - p651163.toInt)).toNat) by first | omega | decide) (show 4 + 2 * n652619 + (g652617.toInt.toNat + 4) ≤ ((256 * (p651162.toInt - p651163.toInt)).toNat) by first | omega | decide) (Nat.le_of_ble_eq_true rfl) (fun r652645 w652646 dc652642 ds652643 hp652644 => ?_) (fun _ _ _ _ _ z => z.elim)
          obtain ⟨P652653, F652654, q652647, q652648, n652649, f652650, rfl, rfl, hsb652655, hfr652656, he652657, he652658, he652659, he652660, hm652661, hq652662, hm652663, hq652664, hdc, hds, bf652650, x652651, x652652⟩ := hp652644
          have hm652665 : q651160 ∈ P652653 := hsb652655 q651160 hm652629
          have hm652666 : q651161 ∈ P652653 := hsb652655 q651161 hm652630
          have hm652667 : q651190 ∈ P652653 := hsb652655 q651190 hm652631
          have hm652668 : q652618 ∈ P652653 := hsb652655 q652618 hm652632
          have hq652669 : q652647 ∉ P651158 := fun z => hq652662 (hsb652633 q652647 z)
          have hq652670 : q652648 ∉ P651158 := fun z => hq652664 (hsb652633 q652648 z)
          have hsb652671 : rSub P651158 P652653 := rSub_tr hsb652633 hsb652655
          have he652672 : F652654 q651160 = .inr (19, [.ref q651161, .int p651162, .int g652616, .int 6, .int p651165, .int p651166, .int p651167, .ref qo651168, .int p651169, .int p651170, .int p651171, .ref qo651172, .ref qo651173, .int p651174]) := (hfr652656 q651160 hm652629 nm_n).trans he652623
          have he652673 : F652654 q651161 = .inl (I .byte, 8192, .inl f651175) := (hfr652656 q651161 hm652630 nm_n).trans he652624
          have hfr652674 : rFr [q651160] P651158 F651159 F652654 := rFr_call hsb652633 hfr652627 hfr652656 (fun b hb hn => ⟨(nm_c (fun e => hn (e ▸ List.mem_cons_self)) nm_n), nm_n⟩)
          have hne652675 : q652618 ≠ q652648 := fun h => hq652664 (h ▸ hm652632)
          change G _ _ _ _ _ _ _ (.ref q652647 :: _) _ _ _
          refine G_widen (cs' := 2 + (g652617.toInt : Int).toNat + 2) (sl' := 4 + 2 * n652619 + (g652617.toInt.toNat + 4)) (by omega) (by omega) ?_
          have x652676 : (n652649 : Int) = g652616.toInt - p651163.toInt := by omega
          clear he651186 he651187 hfr651188 he651197 he651198 he651199 hm651200 hm651201 hm651202 hfr651204 hsb651205 hsb651214 hfr651215 he651216 he651217 hm651218 hq651219 hm651220 hm651221 hm651222 hq651223 hsb651224 he651225 he651226 hfr651227 hsb652655 hfr652656 hq652662 hq652664; try clear r651209; try clear w651210; try clear dc651206; try clear ds651207; try clear hp651208; try clear r652645; try clear w652646; try clear dc652642; try clear ds652643; try clear hp652644
          refine Gp_put 7 hm652665 he652672 dr_cX14_word_245 (gk_X14 D I) (Nat.le_of_ble_eq_true rfl) wr_9_43 rfl rfl rfl (Nat.le_of_ble_eq_true rfl) (fun F652677 e652678 n652679 => ?_)
          have he652680 : F652677 q651161 = .inl (I .byte, 8192, .inl f651175) := (n652679 q651161 (rn_ao he652673 he652672)).trans he652673
          have he652681 : F652677 q652647 = .inr (0, [.ref q652648, .int 0, .int 0, .int 0]) := (n652679 q652647 (fun h => hq652669 (h ▸ hmq651160))).trans he652657
          have he652682 : F652677 q651190 = .inr (1, [.ref q652618, .int 0, .int 0, .int g652617]) := (n652679 q651190 (fun h => hq651203 (h ▸ hmq651160))).trans he652658
          have he652683 : F652677 q652618 = .inl (I .byte, n652619, .inl f652620) := (n652679 q652618 (fun h => hq652621 (h ▸ hmq651160))).trans he652659
          have he652684 : F652677 q652648 = .inl (I .byte, n652649, .inl f652650) := (n652679 q652648 (fun h => hq652670 (h ▸ hmq651160))).trans he652660
          have he652685 : F652677 q651160 = .inr (19, [.ref q651161, .int p651162, .int g652616, .int 6, .int p651165, .int p651166, .int p651167, .ref q652647, .int p651169, .int p651170, .int p651171, .ref qo651172, .ref qo651173, .int p651174]) := e652678
          have hfr652686 : rFr [q651160] P651158 F651159 F652677 := rFr_put' List.mem_cons_self hfr652674 n652679
          refine G_widen (cs' := (4 + (g652616.toInt - p651163.toInt) : Int).toNat) (sl' := (40 + 5 * (g652616.toInt - p651163.toInt) : Int).toNat) (by omega) (by omega) ?_
          clear he652657 he652658 he652659 he652660 he652672 he652673 hfr652674
          refine G_ldcK (a := D.2 1000 34) dr_cX14_word_248 (fun _ _ _ h => gx_vk 34 rfl rfl h) ?_
          have hl34_652686 : (sb_34.length : Int) = 25 := rfl
          refine G_new [.null, .int 0, .int 0, .int 0] dr_cX14_word_250 (gk_J4 D I) wr_7_235 wr_7_44 wr_1_20 (gfs_J4) (show (4 + (g652616.toInt - p651163.toInt) : Int).toNat + 1 ≤ ((16 * (p651162.toInt - p651163.toInt)).toNat) by first | omega | decide) (show (40 + 5 * (g652616.toInt - p651163.toInt) : Int).toNat + 4 ≤ ((256 * (p651162.toInt - p651163.toInt)).toNat) by first | omega | decide) (fun q652688 => Gp_in (fun P652689 F652690 hq652691 hP652692 e652693 n652694 => ?_))
          refine G_widen (cs' := (4 + (g652616.toInt - p651163.toInt) : Int).toNat + 1) (sl' := (40 + 5 * (g652616.toInt - p651163.toInt) : Int).toNat + 4) (by omega) (by omega) ?_
          have he652695 : F652690 q651160 = .inr (19, [.ref q651161, .int p651162, .int g652616, .int 6, .int p651165, .int p651166, .int p651167, .ref q652647, .int p651169, .int p651170, .int p651171, .ref qo651172, .ref qo651173, .int p651174]) := (n652694 q651160 (fun h => hq652691 (h ▸ hm652665))).trans he652685
          have he652696 : F652690 q651161 = .inl (I .byte, 8192, .inl f651175) := (n652694 q651161 (fun h => hq652691 (h ▸ hm652666))).trans he652680
          have he652697 : F652690 q652647 = .inr (0, [.ref q652648, .int 0, .int 0, .int 0]) := (n652694 q652647 (fun h => hq652691 (h ▸ hm652661))).trans he652681
          have he652698 : F652690 q651190 = .inr (1, [.ref q652618, .int 0, .int 0, .int g652617]) := (n652694 q651190 (fun h => hq652691 (h ▸ hm652667))).trans he652682
          have he652699 : F652690 q652618 = .inl (I .byte, n652619, .inl f652620) := (n652694 q652618 (fun h => hq652691 (h ▸ hm652668))).trans he652683
          have he652700 : F652690 q652648 = .inl (I .byte, n652649, .inl f652650) := (n652694 q652648 (fun h => hq652691 (h ▸ hm652663))).trans he652684
          have he652701 : F652690 q652688 = .inr (1, [.null, .int 0, .int 0, .int 0]) := e652693
          have hm652702 : q651160 ∈ P652689 := (hP652692 q651160).mpr (Or.inl hm652665)
          have hm652703 : q651161 ∈ P652689 := (hP652692 q651161).mpr (Or.inl hm652666)
          have hm652704 : q651190 ∈ P652689 := (hP652692 q651190).mpr (Or.inl hm652667)
          have hm652705 : q652618 ∈ P652689 := (hP652692 q652618).mpr (Or.inl hm652668)
          have hm652706 : q652647 ∈ P652689 := (hP652692 q652647).mpr (Or.inl hm652661)
          have hm652707 : q652648 ∈ P652689 := (hP652692 q652648).mpr (Or.inl hm652663)
          have hm652708 : q652688 ∈ P652689 := (hP652692 q652688).mpr (Or.inr rfl)
          have hq652709 : q652688 ∉ P651158 := fun z => hq652691 (hsb652671 q652688 z)
          have hfr652710 : rFr [q651160] P651158 F651159 F652690 := rFr_new hsb652671 hq652691 hfr652686 n652694
          have hsb652711 : rSub P651158 P652689 := rSub_new hsb652671 hP652692
          have hne652712 : q651190 ≠ q652688 := fun h => hq652691 (h ▸ hm652667)
          refine G_dup dr_cX14_word_253 rfl ?_
          refine Gw_callI (As := []) (gV_ok D I) (cp_640525_StringBuilder_init l hl0 D I P652689 F652690 q652688 0 0 hm652708 he652701 (gB_w (gBl (show Int32.toInt 0 = 0 by decide)) (by decide) (by decide)) (gB_w (gBl (show Int32.toInt 0 = 0 by decide)) (by decide) (by decide))) dr_cX14_word_254 ⟨wr_7_236, wr_1_20, wr_7_47, by decide, rfl, (Nat.le_of_ble_eq_true rfl), (Nat.le_of_ble_eq_true rfl)⟩ wr_7_46 rfl (show (4 + (g652616.toInt - p651163.toInt) : Int).toNat + 1 + 1 ≤ ((16 * (p651162.toInt - p651163.toInt)).toNat) by first | omega | decide) (show (40 + 5 * (g652616.toInt - p651163.toInt) : Int).toNat + 4 + 16 ≤ ((256 * (p651162.toInt - p651163.toInt)).toNat) by first | omega | decide) (Nat.le_of_ble_eq_true rfl) (fun r652716 w652717 dc652713 ds652714 hp652715 => ?_)
          obtain ⟨P652719, F652720, q652718, rfl, rfl, hsb652721, hfr652722, he652723, he652724, hm652725, hq652726, hdc, hds⟩ := hp652715
          have hm652727 : q651160 ∈ P652719 := hsb652721 q651160 hm652702
          have hm652728 : q651161 ∈ P652719 := hsb652721 q651161 hm652703
          have hm652729 : q651190 ∈ P652719 := hsb652721 q651190 hm652704
          have hm652730 : q652618 ∈ P652719 := hsb652721 q652618 hm652705
          have hm652731 : q652647 ∈ P652719 := hsb652721 q652647 hm652706
          have hm652732 : q652648 ∈ P652719 := hsb652721 q652648 hm652707
          have hm652733 : q652688 ∈ P652719 := hsb652721 q652688 hm652708
          have hq652734 : q652718 ∉ P651158 := fun z => hq652726 (hsb652711 q652718 z)
          have hsb652735 : rSub P651158 P652719 := rSub_tr hsb652711 hsb652721
          have he652736 : F652720 q651160 = .inr (19, [.ref q651161, .int p651162, .int g652616, .int 6, .int p651165, .int p651166, .int p651167, .ref q652647, .int p651169, .int p651170, .int p651171, .ref qo651172, .ref qo651173, .int p651174]) := (hfr652722 q651160 hm652702 (nm_c (fun h => hq652709 (h ▸ hmq651160)) nm_n)).trans he652695
          have he652737 : F652720 q651161 = .inl (I .byte, 8192, .inl f651175) := (hfr652722 q651161 hm652703 (nm_c (fun h => hq652709 (h ▸ hmq651161)) nm_n)).trans he652696
          have he652738 : F652720 q652647 = .inr (0, [.ref q652648, .int 0, .int 0, .int 0]) := (hfr652722 q652647 hm652706 (nm_c (rn_oo he652697 he652701 (by decide)) nm_n)).trans he652697
          have he652739 : F652720 q651190 = .inr (1, [.ref q652618, .int 0, .int 0, .int g652617]) := (hfr652722 q651190 hm652704 (nm_c hne652712 nm_n)).trans he652698
          have he652740 : F652720 q652618 = .inl (I .byte, n652619, .inl f652620) := (hfr652722 q652618 hm652705 (nm_c (rn_ao he652699 he652701) nm_n)).trans he652699
          have he652741 : F652720 q652648 = .inl (I .byte, n652649, .inl f652650) := (hfr652722 q652648 hm652707 (nm_c (rn_ao he652700 he652701) nm_n)).trans he652700
          have hfr652742 : rFr [q651160] P651158 F651159 F652720 := rFr_call hsb652711 hfr652710 hfr652722 (fun b hb hn => ⟨(nm_c (fun e => hn (e ▸ List.mem_cons_self)) nm_n), (nm_c (fun e => hq652709 (e ▸ hb)) nm_n)⟩)
          have hne652743 : q652618 ≠ q652718 := fun h => hq652726 (h ▸ hm652705)
          have hne652744 : q652648 ≠ q652718 := fun h => hq652726 (h ▸ hm652707)
          change G _ _ _ _ _ _ _ _ _ _ _
          refine G_widen (cs' := (4 + (g652616.toInt - p651163.toInt) : Int).toNat + 1 + 1) (sl' := (40 + 5 * (g652616.toInt - p651163.toInt) : Int).toNat + 4 + 16) (by omega) (by omega) ?_
          refine G_ldcK (a := D.2 1000 35) dr_cX14_word_257 (fun _ _ _ h => gx_vk 35 rfl rfl h) ?_
          have hl35_652744 : (sb_35.length : Int) = 1 := rfl
          refine Gw_callV (As := [.ref (D.2 1000 35)]) (gV_ok D I) (cp_640822_StringBuilder_append l hl0 D I P652719 F652720 q652688 q652718 (D.2 1000 35) (D.2 1001 35) sb_35 0 0 (fun _ => 0) 16 hm652733 hm652725 he652723 he652724 (gx_sc 35 rfl rfl) (by omega) (by decide +kernel) (gB_w (gBl (show Int32.toInt 0 = 0 by decide)) (by decide) (by decide)) (gB_w (gBl (show Int32.toInt 0 = 0 by decide)) (by decide) (by decide)) (gF_w gF_0 (by decide) (by decide)) (by have qa0 : Int32.toInt 0 = 0 := (by decide); have qa1 : Int32.toInt 6 = 6 := (by decide); omega) (by have qa0 : Int32.toInt 0 = 0 := (by decide); have qa1 : Int32.toInt 6 = 6 := (by decide); omega)) dr_cX14_word_259 ⟨wr_8_195, wr_1_20, wr_8_143, by decide, rfl, (Nat.le_of_ble_eq_true rfl), (Nat.le_of_ble_eq_true rfl)⟩ wr_8_141 wr_8_142 hm652733 he652723 rfl (show (4 + (g652616.toInt - p651163.toInt) : Int).toNat + 1 + 1 + 0 ≤ ((16 * (p651162.toInt - p651163.toInt)).toNat) by first | omega | decide) (show (40 + 5 * (g652616.toInt - p651163.toInt) : Int).toNat + 4 + 16 + 0 ≤ ((256 * (p651162.toInt - p651163.toInt)).toNat) by first | omega | decide) (Nat.le_of_ble_eq_true rfl) (fun r652749 w652750 dc652746 ds652747 hp652748 => ?_) (fun _ _ _ _ _ z => z.elim)
          obtain ⟨F652756, o652751, f652752, rfl, rfl, hfr652758, he652759, he652760, hdc, hds, bo652751, bf652752, x652753, x652754, x652755⟩ := hp652748
          have he652761 : F652756 q651160 = .inr (19, [.ref q651161, .int p651162, .int g652616, .int 6, .int p651165, .int p651166, .int p651167, .ref q652647, .int p651169, .int p651170, .int p651171, .ref qo651172, .ref qo651173, .int p651174]) := (hfr652758 q651160 hm652727 (nm_c (fun h => hq652709 (h ▸ hmq651160)) (nm_c (fun h => hq652734 (h ▸ hmq651160)) nm_n))).trans he652736
          have he652762 : F652756 q651161 = .inl (I .byte, 8192, .inl f651175) := (hfr652758 q651161 hm652728 (nm_c (fun h => hq652709 (h ▸ hmq651161)) (nm_c (fun h => hq652734 (h ▸ hmq651161)) nm_n))).trans he652737
          have he652763 : F652756 q652647 = .inr (0, [.ref q652648, .int 0, .int 0, .int 0]) := (hfr652758 q652647 hm652731 (nm_c (rn_oo he652738 he652723 (by decide)) (nm_c (rn_oa he652738 he652724) nm_n))).trans he652738
          have he652764 : F652756 q651190 = .inr (1, [.ref q652618, .int 0, .int 0, .int g652617]) := (hfr652758 q651190 hm652729 (nm_c hne652712 (nm_c (rn_oa he652739 he652724) nm_n))).trans he652739
          have he652765 : F652756 q652618 = .inl (I .byte, n652619, .inl f652620) := (hfr652758 q652618 hm652730 (nm_c (rn_ao he652740 he652723) (nm_c hne652743 nm_n))).trans he652740
          have he652766 : F652756 q652648 = .inl (I .byte, n652649, .inl f652650) := (hfr652758 q652648 hm652732 (nm_c (rn_ao he652741 he652723) (nm_c hne652744 nm_n))).trans he652741
          have hfr652767 : rFr [q651160] P651158 F651159 F652756 := rFr_call hsb652735 hfr652742 hfr652758 (fun b hb hn => ⟨(nm_c (fun e => hn (e ▸ List.mem_cons_self)) nm_n), (nm_c (fun e => hq652709 (e ▸ hb)) (nm_c (fun e => hq652734 (e ▸ hb)) nm_n))⟩)
          rw [show Int32.toInt 0 = 0 from by decide] at x652753
          have bo652751' : gB o652751 1 1 := ⟨by omega, by omega⟩
          rw [show Int32.toInt 0 = 0 from by decide] at x652754
          rw [show Int32.toInt 0 = 0 from by decide] at x652755
          change G _ _ _ _ _ _ _ (.ref q652688 :: _) _ _ _
          refine G_widen (cs' := (4 + (g652616.toInt - p651163.toInt) : Int).toNat + 1 + 1 + 0) (sl' := (40 + 5 * (g652616.toInt - p651163.toInt) : Int).toNat + 4 + 16 + 0) (by omega) (by omega) ?_
          refine G_aload_n 2 dr_cX14_word_262 rfl ?_
          clear hm652661 hm652663 hm652665 hm652666 hm652667 hm652668 hsb652671 he652680 he652681 he652682 he652683 he652684 he652685 hfr652686 he652695 he652696 he652697 he652698 he652699 he652700 he652701 hm652702 hm652703 hm652704 hm652705 hm652706 hm652707 hm652708 hfr652710 hsb652711 hsb652721 hfr652722 he652723 he652724 hq652726 he652736 he652737 he652738 he652739 he652740 he652741 hfr652742 hfr652758 bo652751; try clear r652716; try clear w652717; try clear dc652713; try clear ds652714; try clear hp652715; try clear r652749; try clear w652750; try clear dc652746; try clear ds652747; try clear hp652748
          refine Gp_get 7 hm652727 he652761 dr_cX14_word_263 (gk_X14 D I) (Nat.le_of_ble_eq_true rfl) wr_9_43 rfl ?_
          refine Gw_callV (As := [.ref q652647]) (gV_ok D I) (cp_641017_StringBuilder_append l hl0 D I P652719 F652756 q652688 q652647 q652718 q652648 0 o652751 0 0 f652752 16 f652650 n652649 hm652733 hm652731 hm652725 hm652732 he652759 he652763 he652760 he652766 (Ne.symm hne652744) (gB_w (gBl (show Int32.toInt 0 = 0 by decide)) (by decide) (by decide)) (gB_w bo652751' (by decide) (by decide)) (gB_w (gBl (show Int32.toInt 0 = 0 by decide)) (by decide) (by decide)) bf652752 bf652650 (by have qa0 : Int32.toInt 0 = 0 := (by decide); have qa1 : Int32.toInt 6 = 6 := (by decide); omega) (by have qa0 : Int32.toInt 0 = 0 := (by decide); have qa1 : Int32.toInt 6 = 6 := (by decide); omega) (by have qa0 : Int32.toInt 0 = 0 := (by decide); have qa1 : Int32.toInt 6 = 6 := (by decide); omega) (by have qa0 : Int32.toInt 0 = 0 := (by decide); have qa1 : Int32.toInt 6 = 6 := (by decide); omega) (by have qa0 : Int32.toInt 0 = 0 := (by decide); have qa1 : Int32.toInt 6 = 6 := (by decide); omega)) dr_cX14_word_266 ⟨wr_8_195, wr_1_20, wr_8_143, by decide, rfl, (Nat.le_of_ble_eq_true rfl), (Nat.le_of_ble_eq_true rfl)⟩ wr_8_141 wr_8_142 hm652733 he652759 rfl (show (4 + (g652616.toInt - p651163.toInt) : Int).toNat + 1 + 1 + 0 + 1 ≤ ((16 * (p651162.toInt - p651163.toInt)).toNat) by first | omega | decide) (show (40 + 5 * (g652616.toInt - p651163.toInt) : Int).toNat + 4 + 16 + 0 + (4 * 16 + 4 + 2 * n652649) ≤ ((256 * (p651162.toInt - p651163.toInt)).toNat) by first | omega | decide) (Nat.le_of_ble_eq_true rfl) (fun r652771 w652772 dc652768 ds652769 hp652770 => ?_) (fun _ _ _ _ _ z => z.elim)
          obtain ⟨P652781, F652782, o652773, q652774, n652775, f652776, rfl, rfl, hsb652783, hfr652784, he652785, he652786, he652787, he652788, hm652789, hq652790, hdc, hds, bo652773, bf652776, x652777, x652778, x652779, x652780⟩ := hp652770
          have hm652791 : q651160 ∈ P652781 := hsb652783 q651160 hm652727
          have hm652792 : q651161 ∈ P652781 := hsb652783 q651161 hm652728
          have hm652793 : q651190 ∈ P652781 := hsb652783 q651190 hm652729
          have hm652794 : q652618 ∈ P652781 := hsb652783 q652618 hm652730
          have hm652795 : q652647 ∈ P652781 := hsb652783 q652647 hm652731
          have hm652796 : q652648 ∈ P652781 := hsb652783 q652648 hm652732
          have hm652797 : q652688 ∈ P652781 := hsb652783 q652688 hm652733
          have hm652798 : q652718 ∈ P652781 := hsb652783 q652718 hm652725
          have hq652799 : q652774 ∉ P651158 := fun z => hq652790.elim (fun e => hq652734 (e ▸ z)) (fun n => n (hsb652735 _ z))
          have hsb652800 : rSub P651158 P652781 := rSub_tr hsb652735 hsb652783
          have he652801 : F652782 q651160 = .inr (19, [.ref q651161, .int p651162, .int g652616, .int 6, .int p651165, .int p651166, .int p651167, .ref q652647, .int p651169, .int p651170, .int p651171, .ref qo651172, .ref qo651173, .int p651174]) := (hfr652784 q651160 hm652727 (nm_c (fun h => hq652709 (h ▸ hmq651160)) (nm_c (fun h => hq652734 (h ▸ hmq651160)) nm_n))).trans he652761
          have he652802 : F652782 q651161 = .inl (I .byte, 8192, .inl f651175) := (hfr652784 q651161 hm652728 (nm_c (fun h => hq652709 (h ▸ hmq651161)) (nm_c (fun h => hq652734 (h ▸ hmq651161)) nm_n))).trans he652762
          have he652803 : F652782 q651190 = .inr (1, [.ref q652618, .int 0, .int 0, .int g652617]) := (hfr652784 q651190 hm652729 (nm_c hne652712 (nm_c (rn_oa he652764 he652760) nm_n))).trans he652764
          have he652804 : F652782 q652618 = .inl (I .byte, n652619, .inl f652620) := (hfr652784 q652618 hm652730 (nm_c (rn_ao he652765 he652759) (nm_c hne652743 nm_n))).trans he652765
          have hfr652805 : rFr [q651160] P651158 F651159 F652782 := rFr_call hsb652735 hfr652767 hfr652784 (fun b hb hn => ⟨(nm_c (fun e => hn (e ▸ List.mem_cons_self)) nm_n), (nm_c (fun e => hq652709 (e ▸ hb)) (nm_c (fun e => hq652734 (e ▸ hb)) nm_n))⟩)
          have hne652806 : q652618 ≠ q652774 := fun e => hq652790.elim (fun e2 => hne652743 (e.trans e2)) (fun n => n (e ▸ hm652730))
          have hne652807 : q652648 ≠ q652774 := fun e => hq652790.elim (fun e2 => hne652744 (e.trans e2)) (fun n => n (e ▸ hm652732))
          have bo652773' : gB o652773 1 16777216 := ⟨by omega, by omega⟩
          change G _ _ _ _ _ _ _ (.ref q652688 :: _) _ _ _
          refine G_widen (cs' := (4 + (g652616.toInt - p651163.toInt) : Int).toNat + 1 + 1 + 0 + 1) (sl' := (40 + 5 * (g652616.toInt - p651163.toInt) : Int).toNat + 4 + 16 + 0 + (2 * (n652775 - 16))) (by omega) (by omega) ?_
          refine G_widen (cs' := (7 + (g652616.toInt - p651163.toInt) : Int).toNat) (sl' := (98 + 7 * (g652616.toInt - p651163.toInt) : Int).toNat) (by omega) (by omega) ?_
          clear hm652725 hm652727 hm652728 hm652729 hm652730 hm652731 hm652732 hm652733 hq652734 hsb652735 hne652743 hne652744 he652759 he652760 bf652752 he652761 he652762 he652763 he652764 he652765 he652766 hfr652767 hsb652783 hfr652784 hq652790 bo652773 hm652798; try clear x652754; try clear x652755; try clear r652771; try clear w652772; try clear dc652768; try clear ds652769; try clear hp652770
          refine G_ldcK (a := D.2 1000 35) dr_cX14_word_269 (fun _ _ _ h => gx_vk 35 rfl rfl h) ?_
          have hl35_652807 : (sb_35.length : Int) = 1 := rfl
          refine Gw_callV (As := [.ref (D.2 1000 35)]) (gV_ok D I) (cp_641160_StringBuilder_append l hl0 D I P652781 F652782 q652688 q652774 (D.2 1000 35) (D.2 1001 35) sb_35 0 o652773 f652776 n652775 hm652797 hm652789 he652785 he652787 (gx_sc 35 rfl rfl) (by omega) (by decide +kernel) (gB_w (gBl (show Int32.toInt 0 = 0 by decide)) (by decide) (by decide)) (gB_w bo652773' (by decide) (by decide)) bf652776 (by have qa0 : Int32.toInt 0 = 0 := (by decide); have qa1 : Int32.toInt 6 = 6 := (by decide); omega) (by have qa0 : Int32.toInt 0 = 0 := (by decide); have qa1 : Int32.toInt 6 = 6 := (by decide); omega) (by have qa0 : Int32.toInt 0 = 0 := (by decide); have qa1 : Int32.toInt 6 = 6 := (by decide); omega) (by have qa0 : Int32.toInt 0 = 0 := (by decide); have qa1 : Int32.toInt 6 = 6 := (by decide); omega)) dr_cX14_word_271 ⟨wr_8_195, wr_1_20, wr_8_143, by decide, rfl, (Nat.le_of_ble_eq_true rfl), (Nat.le_of_ble_eq_true rfl)⟩ wr_8_141 wr_8_142 hm652797 he652785 rfl (show (7 + (g652616.toInt - p651163.toInt) : Int).toNat + 1 ≤ ((16 * (p651162.toInt - p651163.toInt)).toNat) by first | omega | decide) (show (98 + 7 * (g652616.toInt - p651163.toInt) : Int).toNat + (4 * n652775 + 4 + 2 * sb_35.length) ≤ ((256 * (p651162.toInt - p651163.toInt)).toNat) by first | omega | decide) (Nat.le_of_ble_eq_true rfl) (fun r652812 w652813 dc652809 ds652810 hp652811 => ?_) (fun _ _ _ _ _ z => z.elim)
          obtain ⟨P652822, F652823, o652814, q652815, n652816, f652817, rfl, rfl, hsb652824, hfr652825, he652826, he652827, hm652828, hq652829, hdc, hds, bo652814, bf652817, x652818, x652819, x652820, x652821⟩ := hp652811
          have hm652830 : q651160 ∈ P652822 := hsb652824 q651160 hm652791
          have hm652831 : q651161 ∈ P652822 := hsb652824 q651161 hm652792
          have hm652832 : q651190 ∈ P652822 := hsb652824 q651190 hm652793
          have hm652833 : q652618 ∈ P652822 := hsb652824 q652618 hm652794
          have hm652834 : q652647 ∈ P652822 := hsb652824 q652647 hm652795
          have hm652835 : q652648 ∈ P652822 := hsb652824 q652648 hm652796
          have hm652836 : q652688 ∈ P652822 := hsb652824 q652688 hm652797
          have hm652837 : q652774 ∈ P652822 := hsb652824 q652774 hm652789
          have hq652838 : q652815 ∉ P651158 := fun z => hq652829.elim (fun e => hq652799 (e ▸ z)) (fun n => n (hsb652800 _ z))
          have hsb652839 : rSub P651158 P652822 := rSub_tr hsb652800 hsb652824
          have he652840 : F652823 q651160 = .inr (19, [.ref q651161, .int p651162, .int g652616, .int 6, .int p651165, .int p651166, .int p651167, .ref q652647, .int p651169, .int p651170, .int p651171, .ref qo651172, .ref qo651173, .int p651174]) := (hfr652825 q651160 hm652791 (nm_c (fun h => hq652709 (h ▸ hmq651160)) (nm_c (fun h => hq652799 (h ▸ hmq651160)) nm_n))).trans he652801
          have he652841 : F652823 q651161 = .inl (I .byte, 8192, .inl f651175) := (hfr652825 q651161 hm652792 (nm_c (fun h => hq652709 (h ▸ hmq651161)) (nm_c (fun h => hq652799 (h ▸ hmq651161)) nm_n))).trans he652802
          have he652842 : F652823 q651190 = .inr (1, [.ref q652618, .int 0, .int 0, .int g652617]) := (hfr652825 q651190 hm652793 (nm_c hne652712 (nm_c (rn_oa he652803 he652787) nm_n))).trans he652803
          have he652843 : F652823 q652618 = .inl (I .byte, n652619, .inl f652620) := (hfr652825 q652618 hm652794 (nm_c (rn_ao he652804 he652785) (nm_c hne652806 nm_n))).trans he652804
          have he652844 : F652823 q652647 = .inr (0, [.ref q652648, .int 0, .int 0, .int 0]) := (hfr652825 q652647 hm652795 (nm_c (rn_oo he652786 he652785 (by decide)) (nm_c (rn_oa he652786 he652787) nm_n))).trans he652786
          have he652845 : F652823 q652648 = .inl (I .byte, n652649, .inl f652650) := (hfr652825 q652648 hm652796 (nm_c (rn_ao he652788 he652785) (nm_c hne652807 nm_n))).trans he652788
          have hfr652846 : rFr [q651160] P651158 F651159 F652823 := rFr_call hsb652800 hfr652805 hfr652825 (fun b hb hn => ⟨(nm_c (fun e => hn (e ▸ List.mem_cons_self)) nm_n), (nm_c (fun e => hq652709 (e ▸ hb)) (nm_c (fun e => hq652799 (e ▸ hb)) nm_n))⟩)
          have hne652847 : q652618 ≠ q652815 := fun e => hq652829.elim (fun e2 => hne652806 (e.trans e2)) (fun n => n (e ▸ hm652794))
          have hne652848 : q652648 ≠ q652815 := fun e => hq652829.elim (fun e2 => hne652807 (e.trans e2)) (fun n => n (e ▸ hm652796))
          have bo652814' : gB o652814 2 16777216 := ⟨by omega, by omega⟩
          change G _ _ _ _ _ _ _ (.ref q652688 :: _) _ _ _
          refine G_widen (cs' := (7 + (g652616.toInt - p651163.toInt) : Int).toNat + 1) (sl' := (98 + 7 * (g652616.toInt - p651163.toInt) : Int).toNat + (2 * (n652816 - n652775))) (by omega) (by omega) ?_
          refine G_widen (cs' := (8 + (g652616.toInt - p651163.toInt) : Int).toNat) (sl' := (214 + 13 * (g652616.toInt - p651163.toInt) : Int).toNat) (by omega) (by omega) ?_
          clear he652785 he652786 he652787 he652788 hm652789 bf652776 hm652791 hm652792 hm652793 hm652794 hm652795 hm652796 hm652797 hq652799 hsb652800 he652801 he652802 he652803 he652804 hfr652805 hne652806 hne652807 hsb652824 hfr652825 hq652829 bo652814 hm652837; try clear r652812; try clear w652813; try clear dc652809; try clear ds652810; try clear hp652811
          refine Gw_callV (As := []) (gV_ok D I) (cp_641280_StringBuilder_toString l hl0 D I P652822 F652823 q652688 q652815 0 o652814 f652817 n652816 hm652836 hm652828 he652826 he652827 (gB_w (gBl (show Int32.toInt 0 = 0 by decide)) (by decide) (by decide)) (gB_w bo652814' (by decide) (by decide)) bf652817 (by have qa0 : Int32.toInt 0 = 0 := (by decide); have qa1 : Int32.toInt 6 = 6 := (by decide); omega) (by have qa0 : Int32.toInt 0 = 0 := (by decide); have qa1 : Int32.toInt 6 = 6 := (by decide); omega)) dr_cX14_word_274 ⟨wr_8_66, wr_1_20, wr_8_69, by decide, rfl, (Nat.le_of_ble_eq_true rfl), (Nat.le_of_ble_eq_true rfl)⟩ wr_8_67 wr_8_68 hm652836 he652826 rfl (show (8 + (g652616.toInt - p651163.toInt) : Int).toNat + 2 ≤ ((16 * (p651162.toInt - p651163.toInt)).toNat) by first | omega | decide) (show (214 + 13 * (g652616.toInt - p651163.toInt) : Int).toNat + (o652814.toInt.toNat + 4) ≤ ((256 * (p651162.toInt - p651163.toInt)).toNat) by first | omega | decide) (Nat.le_of_ble_eq_true rfl) (fun r652852 w652853 dc652849 ds652850 hp652851 => ?_) (fun _ _ _ _ _ z => z.elim)
          obtain ⟨P652860, F652861, q652854, q652855, n652856, f652857, rfl, rfl, hsb652862, hfr652863, he652864, he652865, he652866, he652867, hm652868, hq652869, hm652870, hq652871, hdc, hds, bf652857, x652858, x652859⟩ := hp652851
          have hm652872 : q651160 ∈ P652860 := hsb652862 q651160 hm652830
          have hm652873 : q651161 ∈ P652860 := hsb652862 q651161 hm652831
          have hm652874 : q651190 ∈ P652860 := hsb652862 q651190 hm652832
          have hm652875 : q652618 ∈ P652860 := hsb652862 q652618 hm652833
          have hm652876 : q652647 ∈ P652860 := hsb652862 q652647 hm652834
          have hm652877 : q652648 ∈ P652860 := hsb652862 q652648 hm652835
          have hm652878 : q652688 ∈ P652860 := hsb652862 q652688 hm652836
          have hm652879 : q652815 ∈ P652860 := hsb652862 q652815 hm652828
          have hq652880 : q652854 ∉ P651158 := fun z => hq652869 (hsb652839 q652854 z)
          have hq652881 : q652855 ∉ P651158 := fun z => hq652871 (hsb652839 q652855 z)
          have hsb652882 : rSub P651158 P652860 := rSub_tr hsb652839 hsb652862
          have he652883 : F652861 q651160 = .inr (19, [.ref q651161, .int p651162, .int g652616, .int 6, .int p651165, .int p651166, .int p651167, .ref q652647, .int p651169, .int p651170, .int p651171, .ref qo651172, .ref qo651173, .int p651174]) := (hfr652863 q651160 hm652830 nm_n).trans he652840
          have he652884 : F652861 q651161 = .inl (I .byte, 8192, .inl f651175) := (hfr652863 q651161 hm652831 nm_n).trans he652841
          have he652885 : F652861 q651190 = .inr (1, [.ref q652618, .int 0, .int 0, .int g652617]) := (hfr652863 q651190 hm652832 nm_n).trans he652842
          have he652886 : F652861 q652618 = .inl (I .byte, n652619, .inl f652620) := (hfr652863 q652618 hm652833 nm_n).trans he652843
          have he652887 : F652861 q652647 = .inr (0, [.ref q652648, .int 0, .int 0, .int 0]) := (hfr652863 q652647 hm652834 nm_n).trans he652844
          have he652888 : F652861 q652648 = .inl (I .byte, n652649, .inl f652650) := (hfr652863 q652648 hm652835 nm_n).trans he652845
          have hfr652889 : rFr [q651160] P651158 F651159 F652861 := rFr_call hsb652839 hfr652846 hfr652863 (fun b hb hn => ⟨(nm_c (fun e => hn (e ▸ List.mem_cons_self)) nm_n), nm_n⟩)
          have hne652890 : q652647 ≠ q652854 := fun h => hq652869 (h ▸ hm652834)
          have hne652891 : q652618 ≠ q652855 := fun h => hq652871 (h ▸ hm652833)
          have hne652892 : q652648 ≠ q652855 := fun h => hq652871 (h ▸ hm652835)
          have hne652893 : q652815 ≠ q652855 := fun h => hq652871 (h ▸ hm652828)
          change G _ _ _ _ _ _ _ (.ref q652854 :: _) _ _ _
          refine G_widen (cs' := (8 + (g652616.toInt - p651163.toInt) : Int).toNat + 2) (sl' := (214 + 13 * (g652616.toInt - p651163.toInt) : Int).toNat + (o652814.toInt.toNat + 4)) (by omega) (by omega) ?_
          refine G_widen (cs' := (10 + (g652616.toInt - p651163.toInt) : Int).toNat) (sl' := (220 + 14 * (g652616.toInt - p651163.toInt) : Int).toNat) (by omega) (by omega) ?_
          clear hq652709 hne652712 he652826 he652827 hm652828 bf652817 hm652830 hm652831 hm652832 hm652833 hm652834 hm652835 hm652836 hq652838 hsb652839 he652840 he652841 he652842 he652843 he652844 he652845 hfr652846 hne652847 hne652848 hsb652862 hfr652863 he652865 he652866 hq652869 hq652871 hm652878 hm652879 hne652893; try clear r652852; try clear w652853; try clear dc652849; try clear ds652850; try clear hp652851; try clear x652859
          refine Gw_callVk (As := [.ref q652854]) (gV_ok D I) (cp_641729_String_indexOf l hl0 D I P652860 F652861 q652854 q652855 (D.2 1000 34) (D.2 1001 34) sb_34 0 0 f652857 n652856 hm652868 hm652870 he652864 he652867 (gx_sc 34 rfl rfl) (by omega) (by decide +kernel) (gB_w (gBl (show Int32.toInt 0 = 0 by decide)) (by decide) (by decide)) bf652857 (by have qa0 : Int32.toInt 0 = 0 := (by decide); have qa1 : Int32.toInt 6 = 6 := (by decide); omega) (by have qa0 : Int32.toInt 0 = 0 := (by decide); have qa1 : Int32.toInt 6 = 6 := (by decide); omega)) dr_cX14_word_277 ⟨wr_8_196, wr_1_21, wr_8_199, by decide, rfl, (Nat.le_of_ble_eq_true rfl), (Nat.le_of_ble_eq_true rfl)⟩ wr_8_197 wr_8_198 (fun _ _ _ h => ((gx_sc 34 rfl rfl) _ _ _ h).1) (show (10 + (g652616.toInt - p651163.toInt) : Int).toNat + 0 ≤ ((16 * (p651162.toInt - p651163.toInt)).toNat) by first | omega | decide) (show (220 + 14 * (g652616.toInt - p651163.toInt) : Int).toNat + 0 ≤ ((256 * (p651162.toInt - p651163.toInt)).toNat) by first | omega | decide) (Nat.le_of_ble_eq_true rfl) (fun r652897 w652898 dc652894 ds652895 hp652896 => ?_) (fun _ _ _ _ _ z => z.elim)
          obtain ⟨o652899, rfl, rfl, hdc, hds, bo652899, x652900, x652901⟩ := hp652896
          change G _ _ _ _ _ _ _ (.int o652899 :: _) _ _ _
          refine G_widen (cs' := (10 + (g652616.toInt - p651163.toInt) : Int).toNat + 0) (sl' := (220 + 14 * (g652616.toInt - p651163.toInt) : Int).toNat + 0) (by omega) (by omega) ?_
          clear he652864 he652867 hm652868 hm652870 bf652857 hq652880 hq652881 hne652890 hne652891 hne652892; try clear r652897; try clear w652898; try clear dc652894; try clear ds652895; try clear hp652896; try clear x652901
          refine G_if_lt 288 dr_cX14_word_280 (by decide +kernel) (fun hc652902 => ?_) (fun hc652902 => ?_)
          · have r652903 : o652899.toInt < 0 := gj_lt hc652902 (show Int32.toInt 0 = 0 by decide)
            have bo652899' : gB o652899 (-2147483646) (-1) := ⟨by omega, by omega⟩
            exact G_vretA dr_cX14_word_288 rfl (show (10 + (g652616.toInt - p651163.toInt) : Int).toNat + 0 ≤ ((16 * (p651162.toInt - p651163.toInt)).toNat) by omega) (show (220 + 14 * (g652616.toInt - p651163.toInt) : Int).toNat + 0 ≤ ((256 * (p651162.toInt - p651163.toInt)).toNat) by omega) ⟨P652860, F652861, g652616, 6, p651166, q652647, rfl, rfl, hsb652882, hfr652889, he652883, he652884, (by omega), (by omega), bg652616, (gB_w (gBl (show Int32.toInt 6 = 6 by decide)) (by decide) (by decide)), (by have qa0 : Int32.toInt 0 = 0 := (by decide); have qa1 : Int32.toInt 6 = 6 := (by decide); omega), (by have qa0 : Int32.toInt 0 = 0 := (by decide); have qa1 : Int32.toInt 6 = 6 := (by decide); omega), (tP_no (by decide) (by decide)), (vP_no (by decide) (by decide))⟩
          · have r652904 : 0 ≤ o652899.toInt := gj_nlt hc652902 (show Int32.toInt 0 = 0 by decide)
            have bo652899' : gB o652899 0 16777215 := ⟨by omega, by omega⟩
            refine G_aload_n 2 dr_cX14_word_283 rfl ?_
            refine G_iconst 1 dr_cX14_word_284 (by decide +kernel) ?_
            refine Gp_put 3 hm652872 he652883 dr_cX14_word_285 (gk_X14 D I) (Nat.le_of_ble_eq_true rfl) wr_9_39 rfl rfl rfl (Nat.le_of_ble_eq_true rfl) (fun F652905 e652906 n652907 => ?_)
            have he652908 : F652905 q651161 = .inl (I .byte, 8192, .inl f651175) := (n652907 q651161 (rn_ao he652884 he652883)).trans he652884
            have he652909 : F652905 q651190 = .inr (1, [.ref q652618, .int 0, .int 0, .int g652617]) := (n652907 q651190 (fun h => hq651203 (h ▸ hmq651160))).trans he652885
            have he652910 : F652905 q652618 = .inl (I .byte, n652619, .inl f652620) := (n652907 q652618 (fun h => hq652621 (h ▸ hmq651160))).trans he652886
            have he652911 : F652905 q652647 = .inr (0, [.ref q652648, .int 0, .int 0, .int 0]) := (n652907 q652647 (fun h => hq652669 (h ▸ hmq651160))).trans he652887
            have he652912 : F652905 q652648 = .inl (I .byte, n652649, .inl f652650) := (n652907 q652648 (fun h => hq652670 (h ▸ hmq651160))).trans he652888
            have he652913 : F652905 q651160 = .inr (19, [.ref q651161, .int p651162, .int g652616, .int 1, .int p651165, .int p651166, .int p651167, .ref q652647, .int p651169, .int p651170, .int p651171, .ref qo651172, .ref qo651173, .int p651174]) := e652906
            have hfr652914 : rFr [q651160] P651158 F651159 F652905 := rFr_put' List.mem_cons_self hfr652889 n652907
            exact G_vretA dr_cX14_word_288 rfl (show (10 + (g652616.toInt - p651163.toInt) : Int).toNat + 0 ≤ ((16 * (p651162.toInt - p651163.toInt)).toNat) by omega) (show (220 + 14 * (g652616.toInt - p651163.toInt) : Int).toNat + 0 ≤ ((256 * (p651162.toInt - p651163.toInt)).toNat) by omega) ⟨P652860, F652905, g652616, 1, p651166, q652647, rfl, rfl, hsb652882, hfr652914, he652913, he652908, (by omega), (by omega), bg652616, (gB_w (gBl (show Int32.toInt 1 = 1 by decide)) (by decide) (by decide)), (by have qa0 : Int32.toInt 0 = 0 := (by decide); have qa1 : Int32.toInt 1 = 1 := (by decide); omega), (by have qa0 : Int32.toInt 0 = 0 := (by decide); have qa1 : Int32.toInt 1 = 1 := (by decide); omega), (tP_1 hm652876 he652911 hm652877 he652912 bf652650 (by omega) (gB_w (gBl (show Int32.toInt 0 = 0 by decide)) (by decide) (by decide)) (fun e => hq652670 (e ▸ x651179)) (fun e => hq652670 (e ▸ x651180))), (vP_no (by decide) (by decide))⟩
        · have r652915 : g652616.toInt < p651162.toInt := gC_nle hc652639
          have bg652616' : gB g652616 0 8191 := ⟨by omega, by omega⟩
          have bp651162' : gB p651162 1 8192 := ⟨by omega, by omega⟩
          refine G_aload_n 2 dr_cX14_word_197 rfl ?_
          refine Gp_get 0 hm652629 he652623 dr_cX14_word_198 (gk_X14 D I) (Nat.le_of_ble_eq_true rfl) wr_9_36 rfl ?_
          refine G_aload_n 2 dr_cX14_word_201 rfl ?_
          refine Gp_get 2 hm652629 he652623 dr_cX14_word_202 (gk_X14 D I) (Nat.le_of_ble_eq_true rfl) wr_9_38 rfl ?_
          refine Gp_bald 1 hm652630 he652624 dr_cX14_word_205 rfl (gB_in bg652616' (by decide) (by decide)) (G_nam fun z652916 hz652916 => ?_)
          have bz652916 : gB z652916 (-128) 127 := by rw [hz652916]; exact bf651175 _
          refine Gw_callS (As := [.int z652916]) (gV_ok D I) (cp_651515_Reader_isLetter l hl0 D I P652628 F652622 z652916 ) dr_cX14_word_206 ⟨wr_7_222, wr_1_32, wr_7_224, by decide, rfl, (Nat.le_of_ble_eq_true rfl), (Nat.le_of_ble_eq_true rfl)⟩ wr_7_223 (show 2 + (g652617.toInt : Int).toNat + 0 ≤ ((16 * (p651162.toInt - p651163.toInt)).toNat) by first | omega | decide) (show 4 + 2 * n652619 + 0 ≤ ((256 * (p651162.toInt - p651163.toInt)).toNat) by first | omega | decide) (Nat.le_of_ble_eq_true rfl) (fun r652920 w652921 dc652917 ds652918 hp652919 => ?_) (fun _ _ _ _ _ z => z.elim)
          obtain ⟨o652922, rfl, rfl, hdc, hds, bo652922, x652923⟩ := hp652919
          change G _ _ _ _ _ _ _ (.int o652922 :: _) _ _ _
          refine G_widen (cs' := 2 + (g652617.toInt : Int).toNat + 0) (sl' := 4 + 2 * n652619 + 0) (by omega) (by omega) ?_
          refine G_if_eq 240 dr_cX14_word_209 (by decide +kernel) (fun hc652924 => ?_) (fun hc652924 => ?_)
          · have r652925 : o652922.toInt = 0 := gj_eq hc652924 (show Int32.toInt 0 = 0 by decide)
            have bo652922' : gB o652922 0 0 := ⟨by omega, by omega⟩
            have x652926 : p651163.toInt < g652616.toInt := by first | omega | exact cLt_lt x651178 (by assumption) (isP_0 (by assumption) (by omega)) (by omega)
            refine G_aload_n 2 dr_cX14_word_240 rfl ?_
            refine G_aload_n 0 dr_cX14_word_241 rfl ?_
            refine Gw_callV (As := []) (gV_ok D I) (cp_641280_StringBuilder_toString l hl0 D I P652628 F652622 q651190 q652618 0 g652617 f652620 n652619 hm652631 hm652632 he652625 he652626 (gB_w (gBl (show Int32.toInt 0 = 0 by decide)) (by decide) (by decide)) bg652617 bf652620 (by have qa0 : Int32.toInt 0 = 0 := (by decide); have qa1 : Int32.toInt 6 = 6 := (by decide); omega) (by have qa0 : Int32.toInt 0 = 0 := (by decide); have qa1 : Int32.toInt 6 = 6 := (by decide); omega)) dr_cX14_word_242 ⟨wr_8_66, wr_1_20, wr_8_69, by decide, rfl, (Nat.le_of_ble_eq_true rfl), (Nat.le_of_ble_eq_true rfl)⟩ wr_8_67 wr_8_68 hm652631 he652625 rfl (show 2 + (g652617.toInt : Int).toNat + 0 + 2 ≤ ((16 * (p651162.toInt - p651163.toInt)).toNat) by first | omega | decide) (show 4 + 2 * n652619 + 0 + (g652617.toInt.toNat + 4) ≤ ((256 * (p651162.toInt - p651163.toInt)).toNat) by first | omega | decide) (Nat.le_of_ble_eq_true rfl) (fun r652930 w652931 dc652927 ds652928 hp652929 => ?_) (fun _ _ _ _ _ z => z.elim)
            obtain ⟨P652938, F652939, q652932, q652933, n652934, f652935, rfl, rfl, hsb652940, hfr652941, he652942, he652943, he652944, he652945, hm652946, hq652947, hm652948, hq652949, hdc, hds, bf652935, x652936, x652937⟩ := hp652929
            have hm652950 : q651160 ∈ P652938 := hsb652940 q651160 hm652629
            have hm652951 : q651161 ∈ P652938 := hsb652940 q651161 hm652630
            have hm652952 : q651190 ∈ P652938 := hsb652940 q651190 hm652631
            have hm652953 : q652618 ∈ P652938 := hsb652940 q652618 hm652632
            have hq652954 : q652932 ∉ P651158 := fun z => hq652947 (hsb652633 q652932 z)
            have hq652955 : q652933 ∉ P651158 := fun z => hq652949 (hsb652633 q652933 z)
            have hsb652956 : rSub P651158 P652938 := rSub_tr hsb652633 hsb652940
            have he652957 : F652939 q651160 = .inr (19, [.ref q651161, .int p651162, .int g652616, .int 6, .int p651165, .int p651166, .int p651167, .ref qo651168, .int p651169, .int p651170, .int p651171, .ref qo651172, .ref qo651173, .int p651174]) := (hfr652941 q651160 hm652629 nm_n).trans he652623
            have he652958 : F652939 q651161 = .inl (I .byte, 8192, .inl f651175) := (hfr652941 q651161 hm652630 nm_n).trans he652624
            have hfr652959 : rFr [q651160] P651158 F651159 F652939 := rFr_call hsb652633 hfr652627 hfr652941 (fun b hb hn => ⟨(nm_c (fun e => hn (e ▸ List.mem_cons_self)) nm_n), nm_n⟩)
            have hne652960 : q652618 ≠ q652933 := fun h => hq652949 (h ▸ hm652632)
            change G _ _ _ _ _ _ _ (.ref q652932 :: _) _ _ _
            refine G_widen (cs' := 2 + (g652617.toInt : Int).toNat + 0 + 2) (sl' := 4 + 2 * n652619 + 0 + (g652617.toInt.toNat + 4)) (by omega) (by omega) ?_
            have x652961 : (n652934 : Int) = g652616.toInt - p651163.toInt := by omega
            clear he651186 he651187 hfr651188 he651197 he651198 he651199 hm651200 hm651201 hm651202 hfr651204 hsb651205 hsb651214 hfr651215 he651216 he651217 hm651218 hq651219 hm651220 hm651221 hm651222 hq651223 hsb651224 he651225 he651226 hfr651227 bo652922 bo652922' hsb652940 hfr652941 hq652947 hq652949; try clear r651209; try clear w651210; try clear dc651206; try clear ds651207; try clear hp651208; try clear r652920; try clear w652921; try clear dc652917; try clear ds652918; try clear hp652919; try clear x652923; try clear r652925; try clear r652930; try clear w652931; try clear dc652927; try clear ds652928; try clear hp652929
            refine Gp_put 7 hm652950 he652957 dr_cX14_word_245 (gk_X14 D I) (Nat.le_of_ble_eq_true rfl) wr_9_43 rfl rfl rfl (Nat.le_of_ble_eq_true rfl) (fun F652962 e652963 n652964 => ?_)
            have he652965 : F652962 q651161 = .inl (I .byte, 8192, .inl f651175) := (n652964 q651161 (rn_ao he652958 he652957)).trans he652958
            have he652966 : F652962 q652932 = .inr (0, [.ref q652933, .int 0, .int 0, .int 0]) := (n652964 q652932 (fun h => hq652954 (h ▸ hmq651160))).trans he652942
            have he652967 : F652962 q651190 = .inr (1, [.ref q652618, .int 0, .int 0, .int g652617]) := (n652964 q651190 (fun h => hq651203 (h ▸ hmq651160))).trans he652943
            have he652968 : F652962 q652618 = .inl (I .byte, n652619, .inl f652620) := (n652964 q652618 (fun h => hq652621 (h ▸ hmq651160))).trans he652944
            have he652969 : F652962 q652933 = .inl (I .byte, n652934, .inl f652935) := (n652964 q652933 (fun h => hq652955 (h ▸ hmq651160))).trans he652945
            have he652970 : F652962 q651160 = .inr (19, [.ref q651161, .int p651162, .int g652616, .int 6, .int p651165, .int p651166, .int p651167, .ref q652932, .int p651169, .int p651170, .int p651171, .ref qo651172, .ref qo651173, .int p651174]) := e652963
            have hfr652971 : rFr [q651160] P651158 F651159 F652962 := rFr_put' List.mem_cons_self hfr652959 n652964
            refine G_widen (cs' := (4 + (g652616.toInt - p651163.toInt) : Int).toNat) (sl' := (40 + 5 * (g652616.toInt - p651163.toInt) : Int).toNat) (by omega) (by omega) ?_
            clear he652942 he652943 he652944 he652945 he652957 he652958 hfr652959
            refine G_ldcK (a := D.2 1000 34) dr_cX14_word_248 (fun _ _ _ h => gx_vk 34 rfl rfl h) ?_
            have hl34_652971 : (sb_34.length : Int) = 25 := rfl
            refine G_new [.null, .int 0, .int 0, .int 0] dr_cX14_word_250 (gk_J4 D I) wr_7_235 wr_7_44 wr_1_20 (gfs_J4) (show (4 + (g652616.toInt - p651163.toInt) : Int).toNat + 1 ≤ ((16 * (p651162.toInt - p651163.toInt)).toNat) by first | omega | decide) (show (40 + 5 * (g652616.toInt - p651163.toInt) : Int).toNat + 4 ≤ ((256 * (p651162.toInt - p651163.toInt)).toNat) by first | omega | decide) (fun q652973 => Gp_in (fun P652974 F652975 hq652976 hP652977 e652978 n652979 => ?_))
            refine G_widen (cs' := (4 + (g652616.toInt - p651163.toInt) : Int).toNat + 1) (sl' := (40 + 5 * (g652616.toInt - p651163.toInt) : Int).toNat + 4) (by omega) (by omega) ?_
            have he652980 : F652975 q651160 = .inr (19, [.ref q651161, .int p651162, .int g652616, .int 6, .int p651165, .int p651166, .int p651167, .ref q652932, .int p651169, .int p651170, .int p651171, .ref qo651172, .ref qo651173, .int p651174]) := (n652979 q651160 (fun h => hq652976 (h ▸ hm652950))).trans he652970
            have he652981 : F652975 q651161 = .inl (I .byte, 8192, .inl f651175) := (n652979 q651161 (fun h => hq652976 (h ▸ hm652951))).trans he652965
            have he652982 : F652975 q652932 = .inr (0, [.ref q652933, .int 0, .int 0, .int 0]) := (n652979 q652932 (fun h => hq652976 (h ▸ hm652946))).trans he652966
            have he652983 : F652975 q651190 = .inr (1, [.ref q652618, .int 0, .int 0, .int g652617]) := (n652979 q651190 (fun h => hq652976 (h ▸ hm652952))).trans he652967
            have he652984 : F652975 q652618 = .inl (I .byte, n652619, .inl f652620) := (n652979 q652618 (fun h => hq652976 (h ▸ hm652953))).trans he652968
            have he652985 : F652975 q652933 = .inl (I .byte, n652934, .inl f652935) := (n652979 q652933 (fun h => hq652976 (h ▸ hm652948))).trans he652969
            have he652986 : F652975 q652973 = .inr (1, [.null, .int 0, .int 0, .int 0]) := e652978
            have hm652987 : q651160 ∈ P652974 := (hP652977 q651160).mpr (Or.inl hm652950)
            have hm652988 : q651161 ∈ P652974 := (hP652977 q651161).mpr (Or.inl hm652951)
            have hm652989 : q651190 ∈ P652974 := (hP652977 q651190).mpr (Or.inl hm652952)
            have hm652990 : q652618 ∈ P652974 := (hP652977 q652618).mpr (Or.inl hm652953)
            have hm652991 : q652932 ∈ P652974 := (hP652977 q652932).mpr (Or.inl hm652946)
            have hm652992 : q652933 ∈ P652974 := (hP652977 q652933).mpr (Or.inl hm652948)
            have hm652993 : q652973 ∈ P652974 := (hP652977 q652973).mpr (Or.inr rfl)
            have hq652994 : q652973 ∉ P651158 := fun z => hq652976 (hsb652956 q652973 z)
            have hfr652995 : rFr [q651160] P651158 F651159 F652975 := rFr_new hsb652956 hq652976 hfr652971 n652979
            have hsb652996 : rSub P651158 P652974 := rSub_new hsb652956 hP652977
            have hne652997 : q651190 ≠ q652973 := fun h => hq652976 (h ▸ hm652952)
            refine G_dup dr_cX14_word_253 rfl ?_
            refine Gw_callI (As := []) (gV_ok D I) (cp_640525_StringBuilder_init l hl0 D I P652974 F652975 q652973 0 0 hm652993 he652986 (gB_w (gBl (show Int32.toInt 0 = 0 by decide)) (by decide) (by decide)) (gB_w (gBl (show Int32.toInt 0 = 0 by decide)) (by decide) (by decide))) dr_cX14_word_254 ⟨wr_7_236, wr_1_20, wr_7_47, by decide, rfl, (Nat.le_of_ble_eq_true rfl), (Nat.le_of_ble_eq_true rfl)⟩ wr_7_46 rfl (show (4 + (g652616.toInt - p651163.toInt) : Int).toNat + 1 + 1 ≤ ((16 * (p651162.toInt - p651163.toInt)).toNat) by first | omega | decide) (show (40 + 5 * (g652616.toInt - p651163.toInt) : Int).toNat + 4 + 16 ≤ ((256 * (p651162.toInt - p651163.toInt)).toNat) by first | omega | decide) (Nat.le_of_ble_eq_true rfl) (fun r653001 w653002 dc652998 ds652999 hp653000 => ?_)
            obtain ⟨P653004, F653005, q653003, rfl, rfl, hsb653006, hfr653007, he653008, he653009, hm653010, hq653011, hdc, hds⟩ := hp653000
            have hm653012 : q651160 ∈ P653004 := hsb653006 q651160 hm652987
            have hm653013 : q651161 ∈ P653004 := hsb653006 q651161 hm652988
            have hm653014 : q651190 ∈ P653004 := hsb653006 q651190 hm652989
            have hm653015 : q652618 ∈ P653004 := hsb653006 q652618 hm652990
            have hm653016 : q652932 ∈ P653004 := hsb653006 q652932 hm652991
            have hm653017 : q652933 ∈ P653004 := hsb653006 q652933 hm652992
            have hm653018 : q652973 ∈ P653004 := hsb653006 q652973 hm652993
            have hq653019 : q653003 ∉ P651158 := fun z => hq653011 (hsb652996 q653003 z)
            have hsb653020 : rSub P651158 P653004 := rSub_tr hsb652996 hsb653006
            have he653021 : F653005 q651160 = .inr (19, [.ref q651161, .int p651162, .int g652616, .int 6, .int p651165, .int p651166, .int p651167, .ref q652932, .int p651169, .int p651170, .int p651171, .ref qo651172, .ref qo651173, .int p651174]) := (hfr653007 q651160 hm652987 (nm_c (fun h => hq652994 (h ▸ hmq651160)) nm_n)).trans he652980
            have he653022 : F653005 q651161 = .inl (I .byte, 8192, .inl f651175) := (hfr653007 q651161 hm652988 (nm_c (fun h => hq652994 (h ▸ hmq651161)) nm_n)).trans he652981
            have he653023 : F653005 q652932 = .inr (0, [.ref q652933, .int 0, .int 0, .int 0]) := (hfr653007 q652932 hm652991 (nm_c (rn_oo he652982 he652986 (by decide)) nm_n)).trans he652982
            have he653024 : F653005 q651190 = .inr (1, [.ref q652618, .int 0, .int 0, .int g652617]) := (hfr653007 q651190 hm652989 (nm_c hne652997 nm_n)).trans he652983
            have he653025 : F653005 q652618 = .inl (I .byte, n652619, .inl f652620) := (hfr653007 q652618 hm652990 (nm_c (rn_ao he652984 he652986) nm_n)).trans he652984
            have he653026 : F653005 q652933 = .inl (I .byte, n652934, .inl f652935) := (hfr653007 q652933 hm652992 (nm_c (rn_ao he652985 he652986) nm_n)).trans he652985
            have hfr653027 : rFr [q651160] P651158 F651159 F653005 := rFr_call hsb652996 hfr652995 hfr653007 (fun b hb hn => ⟨(nm_c (fun e => hn (e ▸ List.mem_cons_self)) nm_n), (nm_c (fun e => hq652994 (e ▸ hb)) nm_n)⟩)
            have hne653028 : q652618 ≠ q653003 := fun h => hq653011 (h ▸ hm652990)
            have hne653029 : q652933 ≠ q653003 := fun h => hq653011 (h ▸ hm652992)
            change G _ _ _ _ _ _ _ _ _ _ _
            refine G_widen (cs' := (4 + (g652616.toInt - p651163.toInt) : Int).toNat + 1 + 1) (sl' := (40 + 5 * (g652616.toInt - p651163.toInt) : Int).toNat + 4 + 16) (by omega) (by omega) ?_
            refine G_ldcK (a := D.2 1000 35) dr_cX14_word_257 (fun _ _ _ h => gx_vk 35 rfl rfl h) ?_
            have hl35_653029 : (sb_35.length : Int) = 1 := rfl
            refine Gw_callV (As := [.ref (D.2 1000 35)]) (gV_ok D I) (cp_640822_StringBuilder_append l hl0 D I P653004 F653005 q652973 q653003 (D.2 1000 35) (D.2 1001 35) sb_35 0 0 (fun _ => 0) 16 hm653018 hm653010 he653008 he653009 (gx_sc 35 rfl rfl) (by omega) (by decide +kernel) (gB_w (gBl (show Int32.toInt 0 = 0 by decide)) (by decide) (by decide)) (gB_w (gBl (show Int32.toInt 0 = 0 by decide)) (by decide) (by decide)) (gF_w gF_0 (by decide) (by decide)) (by have qa0 : Int32.toInt 0 = 0 := (by decide); have qa1 : Int32.toInt 6 = 6 := (by decide); omega) (by have qa0 : Int32.toInt 0 = 0 := (by decide); have qa1 : Int32.toInt 6 = 6 := (by decide); omega)) dr_cX14_word_259 ⟨wr_8_195, wr_1_20, wr_8_143, by decide, rfl, (Nat.le_of_ble_eq_true rfl), (Nat.le_of_ble_eq_true rfl)⟩ wr_8_141 wr_8_142 hm653018 he653008 rfl (show (4 + (g652616.toInt - p651163.toInt) : Int).toNat + 1 + 1 + 0 ≤ ((16 * (p651162.toInt - p651163.toInt)).toNat) by first | omega | decide) (show (40 + 5 * (g652616.toInt - p651163.toInt) : Int).toNat + 4 + 16 + 0 ≤ ((256 * (p651162.toInt - p651163.toInt)).toNat) by first | omega | decide) (Nat.le_of_ble_eq_true rfl) (fun r653034 w653035 dc653031 ds653032 hp653033 => ?_) (fun _ _ _ _ _ z => z.elim)
            obtain ⟨F653041, o653036, f653037, rfl, rfl, hfr653043, he653044, he653045, hdc, hds, bo653036, bf653037, x653038, x653039, x653040⟩ := hp653033
            have he653046 : F653041 q651160 = .inr (19, [.ref q651161, .int p651162, .int g652616, .int 6, .int p651165, .int p651166, .int p651167, .ref q652932, .int p651169, .int p651170, .int p651171, .ref qo651172, .ref qo651173, .int p651174]) := (hfr653043 q651160 hm653012 (nm_c (fun h => hq652994 (h ▸ hmq651160)) (nm_c (fun h => hq653019 (h ▸ hmq651160)) nm_n))).trans he653021
            have he653047 : F653041 q651161 = .inl (I .byte, 8192, .inl f651175) := (hfr653043 q651161 hm653013 (nm_c (fun h => hq652994 (h ▸ hmq651161)) (nm_c (fun h => hq653019 (h ▸ hmq651161)) nm_n))).trans he653022
            have he653048 : F653041 q652932 = .inr (0, [.ref q652933, .int 0, .int 0, .int 0]) := (hfr653043 q652932 hm653016 (nm_c (rn_oo he653023 he653008 (by decide)) (nm_c (rn_oa he653023 he653009) nm_n))).trans he653023
            have he653049 : F653041 q651190 = .inr (1, [.ref q652618, .int 0, .int 0, .int g652617]) := (hfr653043 q651190 hm653014 (nm_c hne652997 (nm_c (rn_oa he653024 he653009) nm_n))).trans he653024
            have he653050 : F653041 q652618 = .inl (I .byte, n652619, .inl f652620) := (hfr653043 q652618 hm653015 (nm_c (rn_ao he653025 he653008) (nm_c hne653028 nm_n))).trans he653025
            have he653051 : F653041 q652933 = .inl (I .byte, n652934, .inl f652935) := (hfr653043 q652933 hm653017 (nm_c (rn_ao he653026 he653008) (nm_c hne653029 nm_n))).trans he653026
            have hfr653052 : rFr [q651160] P651158 F651159 F653041 := rFr_call hsb653020 hfr653027 hfr653043 (fun b hb hn => ⟨(nm_c (fun e => hn (e ▸ List.mem_cons_self)) nm_n), (nm_c (fun e => hq652994 (e ▸ hb)) (nm_c (fun e => hq653019 (e ▸ hb)) nm_n))⟩)
            rw [show Int32.toInt 0 = 0 from by decide] at x653038
            have bo653036' : gB o653036 1 1 := ⟨by omega, by omega⟩
            rw [show Int32.toInt 0 = 0 from by decide] at x653039
            rw [show Int32.toInt 0 = 0 from by decide] at x653040
            change G _ _ _ _ _ _ _ (.ref q652973 :: _) _ _ _
            refine G_widen (cs' := (4 + (g652616.toInt - p651163.toInt) : Int).toNat + 1 + 1 + 0) (sl' := (40 + 5 * (g652616.toInt - p651163.toInt) : Int).toNat + 4 + 16 + 0) (by omega) (by omega) ?_
            refine G_aload_n 2 dr_cX14_word_262 rfl ?_
            clear hm652946 hm652948 hm652950 hm652951 hm652952 hm652953 hsb652956 he652965 he652966 he652967 he652968 he652969 he652970 hfr652971 he652980 he652981 he652982 he652983 he652984 he652985 he652986 hm652987 hm652988 hm652989 hm652990 hm652991 hm652992 hm652993 hfr652995 hsb652996 hsb653006 hfr653007 he653008 he653009 hq653011 he653021 he653022 he653023 he653024 he653025 he653026 hfr653027 hfr653043 bo653036; try clear r653001; try clear w653002; try clear dc652998; try clear ds652999; try clear hp653000; try clear r653034; try clear w653035; try clear dc653031; try clear ds653032; try clear hp653033
            refine Gp_get 7 hm653012 he653046 dr_cX14_word_263 (gk_X14 D I) (Nat.le_of_ble_eq_true rfl) wr_9_43 rfl ?_
            refine Gw_callV (As := [.ref q652932]) (gV_ok D I) (cp_641017_StringBuilder_append l hl0 D I P653004 F653041 q652973 q652932 q653003 q652933 0 o653036 0 0 f653037 16 f652935 n652934 hm653018 hm653016 hm653010 hm653017 he653044 he653048 he653045 he653051 (Ne.symm hne653029) (gB_w (gBl (show Int32.toInt 0 = 0 by decide)) (by decide) (by decide)) (gB_w bo653036' (by decide) (by decide)) (gB_w (gBl (show Int32.toInt 0 = 0 by decide)) (by decide) (by decide)) bf653037 bf652935 (by have qa0 : Int32.toInt 0 = 0 := (by decide); have qa1 : Int32.toInt 6 = 6 := (by decide); omega) (by have qa0 : Int32.toInt 0 = 0 := (by decide); have qa1 : Int32.toInt 6 = 6 := (by decide); omega) (by have qa0 : Int32.toInt 0 = 0 := (by decide); have qa1 : Int32.toInt 6 = 6 := (by decide); omega) (by have qa0 : Int32.toInt 0 = 0 := (by decide); have qa1 : Int32.toInt 6 = 6 := (by decide); omega) (by have qa0 : Int32.toInt 0 = 0 := (by decide); have qa1 : Int32.toInt 6 = 6 := (by decide); omega)) dr_cX14_word_266 ⟨wr_8_195, wr_1_20, wr_8_143, by decide, rfl, (Nat.le_of_ble_eq_true rfl), (Nat.le_of_ble_eq_true rfl)⟩ wr_8_141 wr_8_142 hm653018 he653044 rfl (show (4 + (g652616.toInt - p651163.toInt) : Int).toNat + 1 + 1 + 0 + 1 ≤ ((16 * (p651162.toInt - p651163.toInt)).toNat) by first | omega | decide) (show (40 + 5 * (g652616.toInt - p651163.toInt) : Int).toNat + 4 + 16 + 0 + (4 * 16 + 4 + 2 * n652934) ≤ ((256 * (p651162.toInt - p651163.toInt)).toNat) by first | omega | decide) (Nat.le_of_ble_eq_true rfl) (fun r653056 w653057 dc653053 ds653054 hp653055 => ?_) (fun _ _ _ _ _ z => z.elim)
            obtain ⟨P653066, F653067, o653058, q653059, n653060, f653061, rfl, rfl, hsb653068, hfr653069, he653070, he653071, he653072, he653073, hm653074, hq653075, hdc, hds, bo653058, bf653061, x653062, x653063, x653064, x653065⟩ := hp653055
            have hm653076 : q651160 ∈ P653066 := hsb653068 q651160 hm653012
            have hm653077 : q651161 ∈ P653066 := hsb653068 q651161 hm653013
            have hm653078 : q651190 ∈ P653066 := hsb653068 q651190 hm653014
            have hm653079 : q652618 ∈ P653066 := hsb653068 q652618 hm653015
            have hm653080 : q652932 ∈ P653066 := hsb653068 q652932 hm653016
            have hm653081 : q652933 ∈ P653066 := hsb653068 q652933 hm653017
            have hm653082 : q652973 ∈ P653066 := hsb653068 q652973 hm653018
            have hm653083 : q653003 ∈ P653066 := hsb653068 q653003 hm653010
            have hq653084 : q653059 ∉ P651158 := fun z => hq653075.elim (fun e => hq653019 (e ▸ z)) (fun n => n (hsb653020 _ z))
            have hsb653085 : rSub P651158 P653066 := rSub_tr hsb653020 hsb653068
            have he653086 : F653067 q651160 = .inr (19, [.ref q651161, .int p651162, .int g652616, .int 6, .int p651165, .int p651166, .int p651167, .ref q652932, .int p651169, .int p651170, .int p651171, .ref qo651172, .ref qo651173, .int p651174]) := (hfr653069 q651160 hm653012 (nm_c (fun h => hq652994 (h ▸ hmq651160)) (nm_c (fun h => hq653019 (h ▸ hmq651160)) nm_n))).trans he653046
            have he653087 : F653067 q651161 = .inl (I .byte, 8192, .inl f651175) := (hfr653069 q651161 hm653013 (nm_c (fun h => hq652994 (h ▸ hmq651161)) (nm_c (fun h => hq653019 (h ▸ hmq651161)) nm_n))).trans he653047
            have he653088 : F653067 q651190 = .inr (1, [.ref q652618, .int 0, .int 0, .int g652617]) := (hfr653069 q651190 hm653014 (nm_c hne652997 (nm_c (rn_oa he653049 he653045) nm_n))).trans he653049
            have he653089 : F653067 q652618 = .inl (I .byte, n652619, .inl f652620) := (hfr653069 q652618 hm653015 (nm_c (rn_ao he653050 he653044) (nm_c hne653028 nm_n))).trans he653050
            have hfr653090 : rFr [q651160] P651158 F651159 F653067 := rFr_call hsb653020 hfr653052 hfr653069 (fun b hb hn => ⟨(nm_c (fun e => hn (e ▸ List.mem_cons_self)) nm_n), (nm_c (fun e => hq652994 (e ▸ hb)) (nm_c (fun e => hq653019 (e ▸ hb)) nm_n))⟩)
            have hne653091 : q652618 ≠ q653059 := fun e => hq653075.elim (fun e2 => hne653028 (e.trans e2)) (fun n => n (e ▸ hm653015))
            have hne653092 : q652933 ≠ q653059 := fun e => hq653075.elim (fun e2 => hne653029 (e.trans e2)) (fun n => n (e ▸ hm653017))
            have bo653058' : gB o653058 1 16777216 := ⟨by omega, by omega⟩
            change G _ _ _ _ _ _ _ (.ref q652973 :: _) _ _ _
            refine G_widen (cs' := (4 + (g652616.toInt - p651163.toInt) : Int).toNat + 1 + 1 + 0 + 1) (sl' := (40 + 5 * (g652616.toInt - p651163.toInt) : Int).toNat + 4 + 16 + 0 + (2 * (n653060 - 16))) (by omega) (by omega) ?_
            refine G_widen (cs' := (7 + (g652616.toInt - p651163.toInt) : Int).toNat) (sl' := (98 + 7 * (g652616.toInt - p651163.toInt) : Int).toNat) (by omega) (by omega) ?_
            clear hm653010 hm653012 hm653013 hm653014 hm653015 hm653016 hm653017 hm653018 hq653019 hsb653020 hne653028 hne653029 he653044 he653045 bf653037 he653046 he653047 he653048 he653049 he653050 he653051 hfr653052 hsb653068 hfr653069 hq653075 bo653058 hm653083; try clear x653039; try clear x653040; try clear r653056; try clear w653057; try clear dc653053; try clear ds653054; try clear hp653055
            refine G_ldcK (a := D.2 1000 35) dr_cX14_word_269 (fun _ _ _ h => gx_vk 35 rfl rfl h) ?_
            have hl35_653092 : (sb_35.length : Int) = 1 := rfl
            refine Gw_callV (As := [.ref (D.2 1000 35)]) (gV_ok D I) (cp_641160_StringBuilder_append l hl0 D I P653066 F653067 q652973 q653059 (D.2 1000 35) (D.2 1001 35) sb_35 0 o653058 f653061 n653060 hm653082 hm653074 he653070 he653072 (gx_sc 35 rfl rfl) (by omega) (by decide +kernel) (gB_w (gBl (show Int32.toInt 0 = 0 by decide)) (by decide) (by decide)) (gB_w bo653058' (by decide) (by decide)) bf653061 (by have qa0 : Int32.toInt 0 = 0 := (by decide); have qa1 : Int32.toInt 6 = 6 := (by decide); omega) (by have qa0 : Int32.toInt 0 = 0 := (by decide); have qa1 : Int32.toInt 6 = 6 := (by decide); omega) (by have qa0 : Int32.toInt 0 = 0 := (by decide); have qa1 : Int32.toInt 6 = 6 := (by decide); omega) (by have qa0 : Int32.toInt 0 = 0 := (by decide); have qa1 : Int32.toInt 6 = 6 := (by decide); omega)) dr_cX14_word_271 ⟨wr_8_195, wr_1_20, wr_8_143, by decide, rfl, (Nat.le_of_ble_eq_true rfl), (Nat.le_of_ble_eq_true rfl)⟩ wr_8_141 wr_8_142 hm653082 he653070 rfl (show (7 + (g652616.toInt - p651163.toInt) : Int).toNat + 1 ≤ ((16 * (p651162.toInt - p651163.toInt)).toNat) by first | omega | decide) (show (98 + 7 * (g652616.toInt - p651163.toInt) : Int).toNat + (4 * n653060 + 4 + 2 * sb_35.length) ≤ ((256 * (p651162.toInt - p651163.toInt)).toNat) by first | omega | decide) (Nat.le_of_ble_eq_true rfl) (fun r653097 w653098 dc653094 ds653095 hp653096 => ?_) (fun _ _ _ _ _ z => z.elim)
            obtain ⟨P653107, F653108, o653099, q653100, n653101, f653102, rfl, rfl, hsb653109, hfr653110, he653111, he653112, hm653113, hq653114, hdc, hds, bo653099, bf653102, x653103, x653104, x653105, x653106⟩ := hp653096
            have hm653115 : q651160 ∈ P653107 := hsb653109 q651160 hm653076
            have hm653116 : q651161 ∈ P653107 := hsb653109 q651161 hm653077
            have hm653117 : q651190 ∈ P653107 := hsb653109 q651190 hm653078
            have hm653118 : q652618 ∈ P653107 := hsb653109 q652618 hm653079
            have hm653119 : q652932 ∈ P653107 := hsb653109 q652932 hm653080
            have hm653120 : q652933 ∈ P653107 := hsb653109 q652933 hm653081
            have hm653121 : q652973 ∈ P653107 := hsb653109 q652973 hm653082
            have hm653122 : q653059 ∈ P653107 := hsb653109 q653059 hm653074
            have hq653123 : q653100 ∉ P651158 := fun z => hq653114.elim (fun e => hq653084 (e ▸ z)) (fun n => n (hsb653085 _ z))
            have hsb653124 : rSub P651158 P653107 := rSub_tr hsb653085 hsb653109
            have he653125 : F653108 q651160 = .inr (19, [.ref q651161, .int p651162, .int g652616, .int 6, .int p651165, .int p651166, .int p651167, .ref q652932, .int p651169, .int p651170, .int p651171, .ref qo651172, .ref qo651173, .int p651174]) := (hfr653110 q651160 hm653076 (nm_c (fun h => hq652994 (h ▸ hmq651160)) (nm_c (fun h => hq653084 (h ▸ hmq651160)) nm_n))).trans he653086
            have he653126 : F653108 q651161 = .inl (I .byte, 8192, .inl f651175) := (hfr653110 q651161 hm653077 (nm_c (fun h => hq652994 (h ▸ hmq651161)) (nm_c (fun h => hq653084 (h ▸ hmq651161)) nm_n))).trans he653087
            have he653127 : F653108 q651190 = .inr (1, [.ref q652618, .int 0, .int 0, .int g652617]) := (hfr653110 q651190 hm653078 (nm_c hne652997 (nm_c (rn_oa he653088 he653072) nm_n))).trans he653088
            have he653128 : F653108 q652618 = .inl (I .byte, n652619, .inl f652620) := (hfr653110 q652618 hm653079 (nm_c (rn_ao he653089 he653070) (nm_c hne653091 nm_n))).trans he653089
            have he653129 : F653108 q652932 = .inr (0, [.ref q652933, .int 0, .int 0, .int 0]) := (hfr653110 q652932 hm653080 (nm_c (rn_oo he653071 he653070 (by decide)) (nm_c (rn_oa he653071 he653072) nm_n))).trans he653071
            have he653130 : F653108 q652933 = .inl (I .byte, n652934, .inl f652935) := (hfr653110 q652933 hm653081 (nm_c (rn_ao he653073 he653070) (nm_c hne653092 nm_n))).trans he653073
            have hfr653131 : rFr [q651160] P651158 F651159 F653108 := rFr_call hsb653085 hfr653090 hfr653110 (fun b hb hn => ⟨(nm_c (fun e => hn (e ▸ List.mem_cons_self)) nm_n), (nm_c (fun e => hq652994 (e ▸ hb)) (nm_c (fun e => hq653084 (e ▸ hb)) nm_n))⟩)
            have hne653132 : q652618 ≠ q653100 := fun e => hq653114.elim (fun e2 => hne653091 (e.trans e2)) (fun n => n (e ▸ hm653079))
            have hne653133 : q652933 ≠ q653100 := fun e => hq653114.elim (fun e2 => hne653092 (e.trans e2)) (fun n => n (e ▸ hm653081))
            have bo653099' : gB o653099 2 16777216 := ⟨by omega, by omega⟩
            change G _ _ _ _ _ _ _ (.ref q652973 :: _) _ _ _
            refine G_widen (cs' := (7 + (g652616.toInt - p651163.toInt) : Int).toNat + 1) (sl' := (98 + 7 * (g652616.toInt - p651163.toInt) : Int).toNat + (2 * (n653101 - n653060))) (by omega) (by omega) ?_
            refine G_widen (cs' := (8 + (g652616.toInt - p651163.toInt) : Int).toNat) (sl' := (214 + 13 * (g652616.toInt - p651163.toInt) : Int).toNat) (by omega) (by omega) ?_
            clear he653070 he653071 he653072 he653073 hm653074 bf653061 hm653076 hm653077 hm653078 hm653079 hm653080 hm653081 hm653082 hq653084 hsb653085 he653086 he653087 he653088 he653089 hfr653090 hne653091 hne653092 hsb653109 hfr653110 hq653114 bo653099 hm653122; try clear r653097; try clear w653098; try clear dc653094; try clear ds653095; try clear hp653096
            refine Gw_callV (As := []) (gV_ok D I) (cp_641280_StringBuilder_toString l hl0 D I P653107 F653108 q652973 q653100 0 o653099 f653102 n653101 hm653121 hm653113 he653111 he653112 (gB_w (gBl (show Int32.toInt 0 = 0 by decide)) (by decide) (by decide)) (gB_w bo653099' (by decide) (by decide)) bf653102 (by have qa0 : Int32.toInt 0 = 0 := (by decide); have qa1 : Int32.toInt 6 = 6 := (by decide); omega) (by have qa0 : Int32.toInt 0 = 0 := (by decide); have qa1 : Int32.toInt 6 = 6 := (by decide); omega)) dr_cX14_word_274 ⟨wr_8_66, wr_1_20, wr_8_69, by decide, rfl, (Nat.le_of_ble_eq_true rfl), (Nat.le_of_ble_eq_true rfl)⟩ wr_8_67 wr_8_68 hm653121 he653111 rfl (show (8 + (g652616.toInt - p651163.toInt) : Int).toNat + 2 ≤ ((16 * (p651162.toInt - p651163.toInt)).toNat) by first | omega | decide) (show (214 + 13 * (g652616.toInt - p651163.toInt) : Int).toNat + (o653099.toInt.toNat + 4) ≤ ((256 * (p651162.toInt - p651163.toInt)).toNat) by first | omega | decide) (Nat.le_of_ble_eq_true rfl) (fun r653137 w653138 dc653134 ds653135 hp653136 => ?_) (fun _ _ _ _ _ z => z.elim)
            obtain ⟨P653145, F653146, q653139, q653140, n653141, f653142, rfl, rfl, hsb653147, hfr653148, he653149, he653150, he653151, he653152, hm653153, hq653154, hm653155, hq653156, hdc, hds, bf653142, x653143, x653144⟩ := hp653136
            have hm653157 : q651160 ∈ P653145 := hsb653147 q651160 hm653115
            have hm653158 : q651161 ∈ P653145 := hsb653147 q651161 hm653116
            have hm653159 : q651190 ∈ P653145 := hsb653147 q651190 hm653117
            have hm653160 : q652618 ∈ P653145 := hsb653147 q652618 hm653118
            have hm653161 : q652932 ∈ P653145 := hsb653147 q652932 hm653119
            have hm653162 : q652933 ∈ P653145 := hsb653147 q652933 hm653120
            have hm653163 : q652973 ∈ P653145 := hsb653147 q652973 hm653121
            have hm653164 : q653100 ∈ P653145 := hsb653147 q653100 hm653113
            have hq653165 : q653139 ∉ P651158 := fun z => hq653154 (hsb653124 q653139 z)
            have hq653166 : q653140 ∉ P651158 := fun z => hq653156 (hsb653124 q653140 z)
            have hsb653167 : rSub P651158 P653145 := rSub_tr hsb653124 hsb653147
            have he653168 : F653146 q651160 = .inr (19, [.ref q651161, .int p651162, .int g652616, .int 6, .int p651165, .int p651166, .int p651167, .ref q652932, .int p651169, .int p651170, .int p651171, .ref qo651172, .ref qo651173, .int p651174]) := (hfr653148 q651160 hm653115 nm_n).trans he653125
            have he653169 : F653146 q651161 = .inl (I .byte, 8192, .inl f651175) := (hfr653148 q651161 hm653116 nm_n).trans he653126
            have he653170 : F653146 q651190 = .inr (1, [.ref q652618, .int 0, .int 0, .int g652617]) := (hfr653148 q651190 hm653117 nm_n).trans he653127
            have he653171 : F653146 q652618 = .inl (I .byte, n652619, .inl f652620) := (hfr653148 q652618 hm653118 nm_n).trans he653128
            have he653172 : F653146 q652932 = .inr (0, [.ref q652933, .int 0, .int 0, .int 0]) := (hfr653148 q652932 hm653119 nm_n).trans he653129
            have he653173 : F653146 q652933 = .inl (I .byte, n652934, .inl f652935) := (hfr653148 q652933 hm653120 nm_n).trans he653130
            have hfr653174 : rFr [q651160] P651158 F651159 F653146 := rFr_call hsb653124 hfr653131 hfr653148 (fun b hb hn => ⟨(nm_c (fun e => hn (e ▸ List.mem_cons_self)) nm_n), nm_n⟩)
            have hne653175 : q652932 ≠ q653139 := fun h => hq653154 (h ▸ hm653119)
            have hne653176 : q652618 ≠ q653140 := fun h => hq653156 (h ▸ hm653118)
            have hne653177 : q652933 ≠ q653140 := fun h => hq653156 (h ▸ hm653120)
            have hne653178 : q653100 ≠ q653140 := fun h => hq653156 (h ▸ hm653113)
            change G _ _ _ _ _ _ _ (.ref q653139 :: _) _ _ _
            refine G_widen (cs' := (8 + (g652616.toInt - p651163.toInt) : Int).toNat + 2) (sl' := (214 + 13 * (g652616.toInt - p651163.toInt) : Int).toNat + (o653099.toInt.toNat + 4)) (by omega) (by omega) ?_
            refine G_widen (cs' := (10 + (g652616.toInt - p651163.toInt) : Int).toNat) (sl' := (220 + 14 * (g652616.toInt - p651163.toInt) : Int).toNat) (by omega) (by omega) ?_
            clear hq652994 hne652997 he653111 he653112 hm653113 bf653102 hm653115 hm653116 hm653117 hm653118 hm653119 hm653120 hm653121 hq653123 hsb653124 he653125 he653126 he653127 he653128 he653129 he653130 hfr653131 hne653132 hne653133 hsb653147 hfr653148 he653150 he653151 hq653154 hq653156 hm653163 hm653164 hne653178; try clear r653137; try clear w653138; try clear dc653134; try clear ds653135; try clear hp653136; try clear x653144
            refine Gw_callVk (As := [.ref q653139]) (gV_ok D I) (cp_641729_String_indexOf l hl0 D I P653145 F653146 q653139 q653140 (D.2 1000 34) (D.2 1001 34) sb_34 0 0 f653142 n653141 hm653153 hm653155 he653149 he653152 (gx_sc 34 rfl rfl) (by omega) (by decide +kernel) (gB_w (gBl (show Int32.toInt 0 = 0 by decide)) (by decide) (by decide)) bf653142 (by have qa0 : Int32.toInt 0 = 0 := (by decide); have qa1 : Int32.toInt 6 = 6 := (by decide); omega) (by have qa0 : Int32.toInt 0 = 0 := (by decide); have qa1 : Int32.toInt 6 = 6 := (by decide); omega)) dr_cX14_word_277 ⟨wr_8_196, wr_1_21, wr_8_199, by decide, rfl, (Nat.le_of_ble_eq_true rfl), (Nat.le_of_ble_eq_true rfl)⟩ wr_8_197 wr_8_198 (fun _ _ _ h => ((gx_sc 34 rfl rfl) _ _ _ h).1) (show (10 + (g652616.toInt - p651163.toInt) : Int).toNat + 0 ≤ ((16 * (p651162.toInt - p651163.toInt)).toNat) by first | omega | decide) (show (220 + 14 * (g652616.toInt - p651163.toInt) : Int).toNat + 0 ≤ ((256 * (p651162.toInt - p651163.toInt)).toNat) by first | omega | decide) (Nat.le_of_ble_eq_true rfl) (fun r653182 w653183 dc653179 ds653180 hp653181 => ?_) (fun _ _ _ _ _ z => z.elim)
            obtain ⟨o653184, rfl, rfl, hdc, hds, bo653184, x653185, x653186⟩ := hp653181
            change G _ _ _ _ _ _ _ (.int o653184 :: _) _ _ _
            refine G_widen (cs' := (10 + (g652616.toInt - p651163.toInt) : Int).toNat + 0) (sl' := (220 + 14 * (g652616.toInt - p651163.toInt) : Int).toNat + 0) (by omega) (by omega) ?_
            clear he653149 he653152 hm653153 hm653155 bf653142 hq653165 hq653166 hne653175 hne653176 hne653177; try clear r653182; try clear w653183; try clear dc653179; try clear ds653180; try clear hp653181; try clear x653186
            refine G_if_lt 288 dr_cX14_word_280 (by decide +kernel) (fun hc653187 => ?_) (fun hc653187 => ?_)
            · have r653188 : o653184.toInt < 0 := gj_lt hc653187 (show Int32.toInt 0 = 0 by decide)
              have bo653184' : gB o653184 (-2147483646) (-1) := ⟨by omega, by omega⟩
              exact G_vretA dr_cX14_word_288 rfl (show (10 + (g652616.toInt - p651163.toInt) : Int).toNat + 0 ≤ ((16 * (p651162.toInt - p651163.toInt)).toNat) by omega) (show (220 + 14 * (g652616.toInt - p651163.toInt) : Int).toNat + 0 ≤ ((256 * (p651162.toInt - p651163.toInt)).toNat) by omega) ⟨P653145, F653146, g652616, 6, p651166, q652932, rfl, rfl, hsb653167, hfr653174, he653168, he653169, (by omega), (by omega), (gB_w bg652616' (by decide) (by decide)), (gB_w (gBl (show Int32.toInt 6 = 6 by decide)) (by decide) (by decide)), (by have qa0 : Int32.toInt 0 = 0 := (by decide); have qa1 : Int32.toInt 6 = 6 := (by decide); omega), (by have qa0 : Int32.toInt 0 = 0 := (by decide); have qa1 : Int32.toInt 6 = 6 := (by decide); omega), (tP_no (by decide) (by decide)), (vP_no (by decide) (by decide))⟩
            · have r653189 : 0 ≤ o653184.toInt := gj_nlt hc653187 (show Int32.toInt 0 = 0 by decide)
              have bo653184' : gB o653184 0 16777215 := ⟨by omega, by omega⟩
              refine G_aload_n 2 dr_cX14_word_283 rfl ?_
              refine G_iconst 1 dr_cX14_word_284 (by decide +kernel) ?_
              refine Gp_put 3 hm653157 he653168 dr_cX14_word_285 (gk_X14 D I) (Nat.le_of_ble_eq_true rfl) wr_9_39 rfl rfl rfl (Nat.le_of_ble_eq_true rfl) (fun F653190 e653191 n653192 => ?_)
              have he653193 : F653190 q651161 = .inl (I .byte, 8192, .inl f651175) := (n653192 q651161 (rn_ao he653169 he653168)).trans he653169
              have he653194 : F653190 q651190 = .inr (1, [.ref q652618, .int 0, .int 0, .int g652617]) := (n653192 q651190 (fun h => hq651203 (h ▸ hmq651160))).trans he653170
              have he653195 : F653190 q652618 = .inl (I .byte, n652619, .inl f652620) := (n653192 q652618 (fun h => hq652621 (h ▸ hmq651160))).trans he653171
              have he653196 : F653190 q652932 = .inr (0, [.ref q652933, .int 0, .int 0, .int 0]) := (n653192 q652932 (fun h => hq652954 (h ▸ hmq651160))).trans he653172
              have he653197 : F653190 q652933 = .inl (I .byte, n652934, .inl f652935) := (n653192 q652933 (fun h => hq652955 (h ▸ hmq651160))).trans he653173
              have he653198 : F653190 q651160 = .inr (19, [.ref q651161, .int p651162, .int g652616, .int 1, .int p651165, .int p651166, .int p651167, .ref q652932, .int p651169, .int p651170, .int p651171, .ref qo651172, .ref qo651173, .int p651174]) := e653191
              have hfr653199 : rFr [q651160] P651158 F651159 F653190 := rFr_put' List.mem_cons_self hfr653174 n653192
              exact G_vretA dr_cX14_word_288 rfl (show (10 + (g652616.toInt - p651163.toInt) : Int).toNat + 0 ≤ ((16 * (p651162.toInt - p651163.toInt)).toNat) by omega) (show (220 + 14 * (g652616.toInt - p651163.toInt) : Int).toNat + 0 ≤ ((256 * (p651162.toInt - p651163.toInt)).toNat) by omega) ⟨P653145, F653190, g652616, 1, p651166, q652932, rfl, rfl, hsb653167, hfr653199, he653198, he653193, (by omega), (by omega), (gB_w bg652616' (by decide) (by decide)), (gB_w (gBl (show Int32.toInt 1 = 1 by decide)) (by decide) (by decide)), (by have qa0 : Int32.toInt 0 = 0 := (by decide); have qa1 : Int32.toInt 1 = 1 := (by decide); omega), (by have qa0 : Int32.toInt 0 = 0 := (by decide); have qa1 : Int32.toInt 1 = 1 := (by decide); omega), (tP_1 hm653161 he653196 hm653162 he653197 bf652935 (by omega) (gB_w (gBl (show Int32.toInt 0 = 0 by decide)) (by decide) (by decide)) (fun e => hq652955 (e ▸ x651179)) (fun e => hq652955 (e ▸ x651180))), (vP_no (by decide) (by decide))⟩
          · have r653200 : o652922.toInt ≠ 0 := gj_neq hc652924 (show Int32.toInt 0 = 0 by decide)
            have bo652922' : gB o652922 1 1 := ⟨by omega, by omega⟩
            have bi653201 : gB z652916 97 122 := isP_1 x652923 (by omega)
            refine G_aload_n 0 dr_cX14_word_212 rfl ?_
            refine G_aload_n 2 dr_cX14_word_213 rfl ?_
            refine Gp_get 0 hm652629 he652623 dr_cX14_word_214 (gk_X14 D I) (Nat.le_of_ble_eq_true rfl) wr_9_36 rfl ?_
            refine G_aload_n 2 dr_cX14_word_217 rfl ?_
            refine Gp_get 2 hm652629 he652623 dr_cX14_word_218 (gk_X14 D I) (Nat.le_of_ble_eq_true rfl) wr_9_38 rfl ?_
            refine Gp_bald 1 hm652630 he652624 dr_cX14_word_221 rfl (gB_in bg652616' (by decide) (by decide)) (G_eqi (y := z652916) hz652916.symm ?_)
            refine G_i2c dr_cX14_word_222 (G_nam fun z653202 hz653202 => ?_)
            have ez653202 : z653202.toInt = z652916.toInt := gI_i2c hz653202 (by omega) (by omega)
            have bz653202 : gB z653202 97 122 := ⟨by omega, by omega⟩
            refine Gw_callV (As := [.int z653202]) (gV_ok D I) (cp_651829_StringBuilder_append l hl0 D I P652628 F652622 q651190 q652618 z653202 0 g652617 f652620 n652619 hm652631 hm652632 he652625 he652626 (gB_w bz653202 (by decide) (by decide)) (gB_w (gBl (show Int32.toInt 0 = 0 by decide)) (by decide) (by decide)) bg652617 bf652620 (by have qa0 : Int32.toInt 0 = 0 := (by decide); have qa1 : Int32.toInt 6 = 6 := (by decide); omega) (by have qa0 : Int32.toInt 0 = 0 := (by decide); have qa1 : Int32.toInt 6 = 6 := (by decide); omega) (by have qa0 : Int32.toInt 0 = 0 := (by decide); have qa1 : Int32.toInt 6 = 6 := (by decide); omega) (by have qa0 : Int32.toInt 0 = 0 := (by decide); have qa1 : Int32.toInt 6 = 6 := (by decide); omega)) dr_cX14_word_223 ⟨wr_7_237, wr_1_20, wr_8_0, by decide, rfl, (Nat.le_of_ble_eq_true rfl), (Nat.le_of_ble_eq_true rfl)⟩ wr_7_238 wr_7_239 hm652631 he652625 rfl (show 2 + (g652617.toInt : Int).toNat + 0 + 1 ≤ ((16 * (p651162.toInt - p651163.toInt)).toNat) by first | omega | decide) (show 4 + 2 * n652619 + 0 + (4 * n652619 + 8) ≤ ((256 * (p651162.toInt - p651163.toInt)).toNat) by first | omega | decide) (Nat.le_of_ble_eq_true rfl) (fun r653206 w653207 dc653203 ds653204 hp653205 => ?_) (fun _ _ _ _ _ z => z.elim)
            obtain ⟨P653217, F653218, o653208, q653209, n653210, f653211, rfl, rfl, hsb653219, hfr653220, he653221, he653222, hm653223, hq653224, hdc, hds, bo653208, bf653211, x653212, x653213, x653214, x653215, x653216⟩ := hp653205
            have hm653225 : q651160 ∈ P653217 := hsb653219 q651160 hm652629
            have hm653226 : q651161 ∈ P653217 := hsb653219 q651161 hm652630
            have hm653227 : q651190 ∈ P653217 := hsb653219 q651190 hm652631
            have hm653228 : q652618 ∈ P653217 := hsb653219 q652618 hm652632
            have hq653229 : q653209 ∉ P651158 := fun z => hq653224.elim (fun e => hq652621 (e ▸ z)) (fun n => n (hsb652633 _ z))
            have hsb653230 : rSub P651158 P653217 := rSub_tr hsb652633 hsb653219
            have he653231 : F653218 q651160 = .inr (19, [.ref q651161, .int p651162, .int g652616, .int 6, .int p651165, .int p651166, .int p651167, .ref qo651168, .int p651169, .int p651170, .int p651171, .ref qo651172, .ref qo651173, .int p651174]) := (hfr653220 q651160 hm652629 (nm_c (fun h => hq652621 (h ▸ hmq651160)) (nm_c (fun h => hq651203 (h ▸ hmq651160)) nm_n))).trans he652623
            have he653232 : F653218 q651161 = .inl (I .byte, 8192, .inl f651175) := (hfr653220 q651161 hm652630 (nm_c (fun h => hq652621 (h ▸ hmq651161)) (nm_c (fun h => hq651203 (h ▸ hmq651161)) nm_n))).trans he652624
            have hfr653233 : rFr [q651160] P651158 F651159 F653218 := rFr_call hsb652633 hfr652627 hfr653220 (fun b hb hn => ⟨(nm_c (fun e => hn (e ▸ List.mem_cons_self)) nm_n), (nm_c (fun e => hq652621 (e ▸ hb)) (nm_c (fun e => hq651203 (e ▸ hb)) nm_n))⟩)
            change G _ _ _ _ _ _ _ (.ref q651190 :: _) _ _ _
            refine G_widen (cs' := 2 + (g652617.toInt : Int).toNat + 0 + 1) (sl' := 4 + 2 * n652619 + 0 + (2 * (n653210 - n652619))) (by omega) (by omega) ?_
            refine G_pop dr_cX14_word_226 rfl ?_
            refine G_aload_n 2 dr_cX14_word_227 rfl ?_
            refine G_dup dr_cX14_word_228 rfl ?_
            refine Gp_get 2 hm653225 he653231 dr_cX14_word_229 (gk_X14 D I) (Nat.le_of_ble_eq_true rfl) wr_9_38 rfl ?_
            refine G_iconst 1 dr_cX14_word_232 (by decide +kernel) ?_
            refine G_iadd dr_cX14_word_233 (G_nam fun z653234 hz653234 => ?_)
            have ez653234 : z653234.toInt = g652616.toInt + 1 := by rw [gI_add hz653234 bg652616' (gBl (show Int32.toInt 1 = 1 by decide)) (by decide) (by decide), show Int32.toInt 1 = 1 from by decide]
            have bz653234 : gB z653234 1 8192 := gB_add (gI_add hz653234 bg652616' (gBl (show Int32.toInt 1 = 1 by decide)) (by decide) (by decide)) bg652616' (gBl (show Int32.toInt 1 = 1 by decide)) (by decide) (by decide)
            refine Gp_put 2 hm653225 he653231 dr_cX14_word_234 (gk_X14 D I) (Nat.le_of_ble_eq_true rfl) wr_9_38 rfl rfl rfl (Nat.le_of_ble_eq_true rfl) (fun F653235 e653236 n653237 => ?_)
            have he653238 : F653235 q651161 = .inl (I .byte, 8192, .inl f651175) := (n653237 q651161 (rn_ao he653232 he653231)).trans he653232
            have he653239 : F653235 q651190 = .inr (1, [.ref q653209, .int 0, .int 0, .int o653208]) := (n653237 q651190 (fun h => hq651203 (h ▸ hmq651160))).trans he653221
            have he653240 : F653235 q653209 = .inl (I .byte, n653210, .inl f653211) := (n653237 q653209 (fun h => hq653229 (h ▸ hmq651160))).trans he653222
            have he653241 : F653235 q651160 = .inr (19, [.ref q651161, .int p651162, .int z653234, .int 6, .int p651165, .int p651166, .int p651167, .ref qo651168, .int p651169, .int p651170, .int p651171, .ref qo651172, .ref qo651173, .int p651174]) := e653236
            have hfr653242 : rFr [q651160] P651158 F651159 F653235 := rFr_put' List.mem_cons_self hfr653233 n653237
            refine G_goto 186 dr_cX14_word_237 (by decide +kernel) ?_
            refine G_widen (cs' := 2 + (o653208.toInt : Int).toNat) (sl' := 4 + 2 * n653210) (by omega) (by omega) ?_
            exact ih186_652638 P653217 F653235 z653234 o653208 q653209 n653210 f653211 (gB_w bz653234 (by decide) (by decide)) (gB_w bo653208 (by decide) (by decide)) bf653211 hsb653230 hfr653242 hm653225 he653241 hm653226 he653238 hm653227 he653239 hm653223 he653240 hq653229 (by have qa0 : Int32.toInt 0 = 0 := (by decide); have qa1 : Int32.toInt 6 = 6 := (by decide); omega) (by have qa0 : Int32.toInt 0 = 0 := (by decide); have qa1 : Int32.toInt 6 = 6 := (by decide); omega) (by have qa0 : Int32.toInt 0 = 0 := (by decide); have qa1 : Int32.toInt 6 = 6 := (by decide); omega) (by have qa0 : Int32.toInt 0 = 0 := (by decide); have qa1 : Int32.toInt 6 = 6 := (by decide); omega) (by have qa0 : Int32.toInt 0 = 0 := (by decide); have qa1 : Int32.toInt 6 = 6 := (by decide); omega) (by have qa0 : Int32.toInt 0 = 0 := (by decide); have qa1 : Int32.toInt 6 = 6 := (by decide); omega)
    exact hlp186_652638 (((8193 : Int) - p651163.toInt).toNat + 1) P651212 F651213 p651163 0 q651211 16 (fun _ => 0) bp651163 (gB_w (gBl (show Int32.toInt 0 = 0 by decide)) (by decide) (by decide)) (gF_w gF_0 (by decide) (by decide)) hsb651224 hfr651227 hm651220 he651225 hm651221 he651226 hm651222 he651216 hm651218 he651217 hq651223 (by have qa0 : Int32.toInt 0 = 0 := (by decide); have qa1 : Int32.toInt 6 = 6 := (by decide); omega) (by have qa0 : Int32.toInt 0 = 0 := (by decide); have qa1 : Int32.toInt 6 = 6 := (by decide); omega) (by have qa0 : Int32.toInt 0 = 0 := (by decide); have qa1 : Int32.toInt 6 = 6 := (by decide); omega) (by have qa0 : Int32.toInt 0 = 0 := (by decide); have qa1 : Int32.toInt 6 = 6 := (by decide); omega) (by have qa0 : Int32.toInt 0 = 0 := (by decide); have qa1 : Int32.toInt 6 = 6 := (by decide); omega) (Nat.lt_succ_self _)
  refine G_iload_n 0 dr_cX14_word_16 rfl ?_
  refine G_bipush 118 dr_cX14_word_17 (by decide +kernel) ?_
  refine G_icmp_eq 28 dr_cX14_word_19 (by decide +kernel) (fun hc653243 => ?_) (fun hc653243 => ?_)
  · have r653244 : z651182.toInt = 118 := gj_eq hc653243 (show Int32.toInt 118 = 118 by decide)
    have bz651182' : gB z651182 118 118 := ⟨by omega, by omega⟩
    refine G_aload_n 1 dr_cX14_word_28 rfl ?_
    refine Gp_get 2 hmq651160 he651187 dr_cX14_word_29 (gk_X14 D I) (Nat.le_of_ble_eq_true rfl) wr_9_38 rfl ?_
    refine G_iconst 1 dr_cX14_word_32 (by decide +kernel) ?_
    refine G_iadd dr_cX14_word_33 (G_nam fun z653245 hz653245 => ?_)
    have ez653245 : z653245.toInt = p651163.toInt + 1 := by rw [gI_add hz653245 bp651163 (gBl (show Int32.toInt 1 = 1 by decide)) (by decide) (by decide), show Int32.toInt 1 = 1 from by decide]
    have bz653245 : gB z653245 1 8193 := gB_add (gI_add hz653245 bp651163 (gBl (show Int32.toInt 1 = 1 by decide)) (by decide) (by decide)) bp651163 (gBl (show Int32.toInt 1 = 1 by decide)) (by decide) (by decide)
    refine G_aload_n 1 dr_cX14_word_34 rfl ?_
    refine Gp_get 1 hmq651160 he651187 dr_cX14_word_35 (gk_X14 D I) (Nat.le_of_ble_eq_true rfl) wr_9_37 rfl ?_
    refine G_icmp_ge 178 dr_cX14_word_38 (by decide +kernel) (fun hc653246 => ?_) (fun hc653246 => ?_)
    · have r653247 : p651162.toInt ≤ z653245.toInt := gC_le hc653246
      refine G_lv (L' := [(1, .int z651182), (0, .ref q651160)]) [0, 1] rfl ?_
      exact jn651189
    · have r653248 : z653245.toInt < p651162.toInt := gC_nle hc653246
      have bz653245' : gB z653245 1 8191 := ⟨by omega, by omega⟩
      have bp651162' : gB p651162 2 8192 := ⟨by omega, by omega⟩
      refine G_aload_n 1 dr_cX14_word_41 rfl ?_
      refine Gp_get 0 hmq651160 he651187 dr_cX14_word_42 (gk_X14 D I) (Nat.le_of_ble_eq_true rfl) wr_9_36 rfl ?_
      refine G_aload_n 1 dr_cX14_word_45 rfl ?_
      refine Gp_get 2 hmq651160 he651187 dr_cX14_word_46 (gk_X14 D I) (Nat.le_of_ble_eq_true rfl) wr_9_38 rfl ?_
      refine G_iconst 1 dr_cX14_word_49 (by decide +kernel) ?_
      refine G_iadd dr_cX14_word_50 (G_eqi (y := z653245) hz653245.symm ?_)
      refine Gp_bald 1 hmq651161 he651186 dr_cX14_word_51 rfl (gB_in bz653245' (by decide) (by decide)) (G_nam fun z653249 hz653249 => ?_)
      have bz653249 : gB z653249 (-128) 127 := by rw [hz653249]; exact bf651175 _
      refine Gw_callS (As := [.int z653249]) (gV_ok D I) (cp_649619_Reader_isDigit l hl0 D I P651158 F651183 z653249 ) dr_cX14_word_52 ⟨wr_7_219, wr_1_32, wr_7_221, by decide, rfl, (Nat.le_of_ble_eq_true rfl), (Nat.le_of_ble_eq_true rfl)⟩ wr_7_220 (show 0 + 0 ≤ ((16 * (p651162.toInt - p651163.toInt)).toNat) by first | omega | decide) (show 0 + 0 ≤ ((256 * (p651162.toInt - p651163.toInt)).toNat) by first | omega | decide) (Nat.le_of_ble_eq_true rfl) (fun r653253 w653254 dc653250 ds653251 hp653252 => ?_) (fun _ _ _ _ _ z => z.elim)
      obtain ⟨o653255, rfl, rfl, hdc, hds, bo653255, x653256⟩ := hp653252
      change G _ _ _ _ _ _ _ (.int o653255 :: _) _ _ _
      refine G_widen (cs' := 0) (sl' := 0) (by omega) (by omega) ?_
      refine G_if_eq 178 dr_cX14_word_55 (by decide +kernel) (fun hc653257 => ?_) (fun hc653257 => ?_)
      · have r653258 : o653255.toInt = 0 := gj_eq hc653257 (show Int32.toInt 0 = 0 by decide)
        have bo653255' : gB o653255 0 0 := ⟨by omega, by omega⟩
        refine G_lv (L' := [(1, .int z651182), (0, .ref q651160)]) [0, 1] rfl ?_
        exact jn651189
      · have r653259 : o653255.toInt ≠ 0 := gj_neq hc653257 (show Int32.toInt 0 = 0 by decide)
        have bo653255' : gB o653255 1 1 := ⟨by omega, by omega⟩
        have bi653260 : gB z653249 48 57 := isP_1 x653256 (by omega)
        refine G_lconst 0 dr_cX14_word_58 rfl ?_
        refine G_lstore_n (L' := [(2, .long 0), (1, .int z651182), (0, .ref q651160)]) dr_cX14_word_59 (Nat.le_of_ble_eq_true rfl) rfl ?_
        refine G_aload_n 2 dr_cX14_word_60 rfl ?_
        refine G_dup dr_cX14_word_61 rfl ?_
        refine Gp_get 2 hmq651160 he651187 dr_cX14_word_62 (gk_X14 D I) (Nat.le_of_ble_eq_true rfl) wr_9_38 rfl ?_
        refine G_iconst 1 dr_cX14_word_65 (by decide +kernel) ?_
        refine G_iadd dr_cX14_word_66 (G_eqi (y := z653245) hz653245.symm ?_)
        refine Gp_put 2 hmq651160 he651187 dr_cX14_word_67 (gk_X14 D I) (Nat.le_of_ble_eq_true rfl) wr_9_38 rfl rfl rfl (Nat.le_of_ble_eq_true rfl) (fun F653261 e653262 n653263 => ?_)
        have he653264 : F653261 q651161 = .inl (I .byte, 8192, .inl f651175) := (n653263 q651161 (rn_ao he651186 he651187)).trans he651186
        have he653265 : F653261 q651160 = .inr (19, [.ref q651161, .int p651162, .int z653245, .int 6, .int p651165, .int p651166, .int p651167, .ref qo651168, .int p651169, .int p651170, .int p651171, .ref qo651172, .ref qo651173, .int p651174]) := e653262
        have hfr653266 : rFr [q651160] P651158 F651159 F653261 := rFr_put' List.mem_cons_self hfr651188 n653263
        have hlp70_653413 : ∀ (n70_653413 : Nat) (F653407 : Nat → va_E) (gl653405 : Int64) (g653406 : Int32), gB g653406 0 8192 → rFr [q651160] P651158 F651159 F653407 → F653407 q651160 = .inr (19, [.ref q651161, .int p651162, .int g653406, .int 6, .int p651165, .int p651166, .int p651167, .ref qo651168, .int p651169, .int p651170, .int p651171, .ref qo651172, .ref qo651173, .int p651174]) → F653407 q651161 = .inl (I .byte, 8192, .inl f651175) → LG gl653405 0 1000000 → p651163.toInt < g653406.toInt → g653406.toInt ≤ p651162.toInt → ((8193 : Int) - g653406.toInt).toNat < n70_653413 → G (gV D I) l (gRm 6 132 ((16 * (p651162.toInt - p651163.toInt)).toNat) ((256 * (p651162.toInt - p651163.toInt)).toNat)) (gMA (gV D I) (pp_651181_Reader_word D I P651158 F651159 q651160 q651161 p651162 p651163 p651164 p651165 p651166 p651167 qo651168 p651169 p651170 p651171 qo651172 qo651173 p651174 f651175) gNA ((16 * (p651162.toInt - p651163.toInt)).toNat) ((256 * (p651162.toInt - p651163.toInt)).toNat)) ky_651181_Reader_word 70 [(2, .long gl653405), (1, .int z651182), (0, .ref q651160)] [] (va_pl P651158 F653407) 0 0 := by
          intro n70_653413
          induction n70_653413 with
          | zero => intro F653407 gl653405 g653406 bg653406 hfr653410 he653408 he653409 x653411 x653412 x653413 hm70_653413; exact absurd hm70_653413 (Nat.not_lt_zero _)
          | succ n70_653413 ih70_653413 =>
            intro F653407 gl653405 g653406 bg653406 hfr653410 he653408 he653409 x653411 x653412 x653413 hm70_653413
            refine G_aload_n 2 dr_cX14_word_70 rfl ?_
            refine Gp_get 2 hmq651160 he653408 dr_cX14_word_71 (gk_X14 D I) (Nat.le_of_ble_eq_true rfl) wr_9_38 rfl ?_
            refine G_aload_n 2 dr_cX14_word_74 rfl ?_
            refine Gp_get 1 hmq651160 he653408 dr_cX14_word_75 (gk_X14 D I) (Nat.le_of_ble_eq_true rfl) wr_9_37 rfl ?_
            refine G_icmp_ge 136 dr_cX14_word_78 (by decide +kernel) (fun hc653414 => ?_) (fun hc653414 => ?_)
            · have r653415 : p651162.toInt ≤ g653406.toInt := gC_le hc653414
              have bg653406' : gB g653406 2 8192 := ⟨by omega, by omega⟩
              clear bz651182 he651186 he651187 hfr651188 jn651189 bz653245 bz653249 bo653255 bo653255' he653264 he653265 hfr653266; try clear r653253; try clear w653254; try clear dc653250; try clear ds653251; try clear hp653252; try clear x653256; try clear r653259
              refine G_aload_n 2 dr_cX14_word_136 rfl ?_
              refine G_lload_n 0 dr_cX14_word_137 rfl ?_
              refine G_l2i dr_cX14_word_138 (G_nam fun z653416 hz653416 => ?_)
              have bz653416 : gB z653416 (-2147483648) 2147483647 := gB_any z653416
              refine Gp_put 5 hmq651160 he653408 dr_cX14_word_139 (gk_X14 D I) (Nat.le_of_ble_eq_true rfl) wr_9_41 rfl rfl rfl (Nat.le_of_ble_eq_true rfl) (fun F653417 e653418 n653419 => ?_)
              have he653420 : F653417 q651161 = .inl (I .byte, 8192, .inl f651175) := (n653419 q651161 (rn_ao he653409 he653408)).trans he653409
              have he653421 : F653417 q651160 = .inr (19, [.ref q651161, .int p651162, .int g653406, .int 6, .int p651165, .int z653416, .int p651167, .ref qo651168, .int p651169, .int p651170, .int p651171, .ref qo651172, .ref qo651173, .int p651174]) := e653418
              have hfr653422 : rFr [q651160] P651158 F651159 F653417 := rFr_put' List.mem_cons_self hfr653410 n653419
              refine G_lload_n 0 dr_cX14_word_142 rfl ?_
              refine G_iload_n 1 dr_cX14_word_143 rfl ?_
              refine G_bipush 118 dr_cX14_word_144 (by decide +kernel) ?_
              refine G_icmp_ne 155 dr_cX14_word_146 (by decide +kernel) (fun hc => absurd (show False by have := gj_neq hc (show Int32.toInt 118 = 118 by decide); omega) not_false) (fun _ => ?_)
              refine G_ldc2 99 dr_cX14_word_149 wr_7_233 ?_
              refine G_goto 158 dr_cX14_word_152 (by decide +kernel) ?_
              refine G_lcmp dr_cX14_word_158 (G_nam fun z653423 hz653423 => ?_)
              have bz653423 : gB z653423 (-1) 1 := gB_cmp hz653423
              refine G_if_gt 177 dr_cX14_word_159 (by decide +kernel) (fun hc653424 => ?_) (fun hc653424 => ?_)
              · have r653425 : 0 < z653423.toInt := gj_ltL hc653424 (show Int32.toInt 0 = 0 by decide)
                have bz653423' : gB z653423 1 1 := ⟨by omega, by omega⟩
                have lhc653424 := gC_cmpS hz653423 (by omega)
                exact G_vretA dr_cX14_word_177 rfl (show 0 ≤ ((16 * (p651162.toInt - p651163.toInt)).toNat) by omega) (show 0 ≤ ((256 * (p651162.toInt - p651163.toInt)).toNat) by omega) ⟨P651158, F653417, g653406, 6, z653416, qo651168, rfl, rfl, (rSub_rf (P := P651158)), hfr653422, he653421, he653420, (by omega), (by omega), (gB_w bg653406' (by decide) (by decide)), (gB_w (gBl (show Int32.toInt 6 = 6 by decide)) (by decide) (by decide)), (by have qa0 : Int32.toInt 6 = 6 := (by decide); omega), (by have qa0 : Int32.toInt 6 = 6 := (by decide); omega), (tP_no (by decide) (by decide)), (vP_no (by decide) (by decide))⟩
              · have r653426 : z653423.toInt ≤ 0 := gj_nltL hc653424 (show Int32.toInt 0 = 0 by decide)
                have bz653423' : gB z653423 (-1) 0 := ⟨by omega, by omega⟩
                refine G_aload_n 2 dr_cX14_word_162 rfl ?_
                refine G_iload_n 1 dr_cX14_word_163 rfl ?_
                refine G_bipush 118 dr_cX14_word_164 (by decide +kernel) ?_
                refine G_icmp_ne 173 dr_cX14_word_166 (by decide +kernel) (fun hc => absurd (show False by have := gj_neq hc (show Int32.toInt 118 = 118 by decide); omega) not_false) (fun _ => ?_)
                refine G_iconst 2 dr_cX14_word_169 (by decide +kernel) ?_
                refine G_goto 174 dr_cX14_word_170 (by decide +kernel) ?_
                refine Gp_put 3 hmq651160 he653421 dr_cX14_word_174 (gk_X14 D I) (Nat.le_of_ble_eq_true rfl) wr_9_39 rfl rfl rfl (Nat.le_of_ble_eq_true rfl) (fun F653427 e653428 n653429 => ?_)
                have he653430 : F653427 q651161 = .inl (I .byte, 8192, .inl f651175) := (n653429 q651161 (rn_ao he653420 he653421)).trans he653420
                have he653431 : F653427 q651160 = .inr (19, [.ref q651161, .int p651162, .int g653406, .int 2, .int p651165, .int z653416, .int p651167, .ref qo651168, .int p651169, .int p651170, .int p651171, .ref qo651172, .ref qo651173, .int p651174]) := e653428
                have hfr653432 : rFr [q651160] P651158 F651159 F653427 := rFr_put' List.mem_cons_self hfr653422 n653429
                exact G_vretA dr_cX14_word_177 rfl (show 0 ≤ ((16 * (p651162.toInt - p651163.toInt)).toNat) by omega) (show 0 ≤ ((256 * (p651162.toInt - p651163.toInt)).toNat) by omega) ⟨P651158, F653427, g653406, 2, z653416, qo651168, rfl, rfl, (rSub_rf (P := P651158)), hfr653432, he653431, he653430, (by omega), (by omega), (gB_w bg653406' (by decide) (by decide)), (gB_w (gBl (show Int32.toInt 2 = 2 by decide)) (by decide) (by decide)), (by have qa0 : Int32.toInt 2 = 2 := (by decide); omega), (by have qa0 : Int32.toInt 2 = 2 := (by decide); omega), (tP_no (by decide) (by decide)), (vP_r (by assumption) (by assumption) (by assumption) (by omega))⟩
            · have r653433 : g653406.toInt < p651162.toInt := gC_nle hc653414
              have bg653406' : gB g653406 0 8191 := ⟨by omega, by omega⟩
              refine G_aload_n 2 dr_cX14_word_81 rfl ?_
              refine Gp_get 0 hmq651160 he653408 dr_cX14_word_82 (gk_X14 D I) (Nat.le_of_ble_eq_true rfl) wr_9_36 rfl ?_
              refine G_aload_n 2 dr_cX14_word_85 rfl ?_
              refine Gp_get 2 hmq651160 he653408 dr_cX14_word_86 (gk_X14 D I) (Nat.le_of_ble_eq_true rfl) wr_9_38 rfl ?_
              refine Gp_bald 1 hmq651161 he653409 dr_cX14_word_89 rfl (gB_in bg653406' (by decide) (by decide)) (G_nam fun z653434 hz653434 => ?_)
              have bz653434 : gB z653434 (-128) 127 := by rw [hz653434]; exact bf651175 _
              refine Gw_callS (As := [.int z653434]) (gV_ok D I) (cp_649619_Reader_isDigit l hl0 D I P651158 F653407 z653434 ) dr_cX14_word_90 ⟨wr_7_219, wr_1_32, wr_7_221, by decide, rfl, (Nat.le_of_ble_eq_true rfl), (Nat.le_of_ble_eq_true rfl)⟩ wr_7_220 (show 0 + 0 ≤ ((16 * (p651162.toInt - p651163.toInt)).toNat) by first | omega | decide) (show 0 + 0 ≤ ((256 * (p651162.toInt - p651163.toInt)).toNat) by first | omega | decide) (Nat.le_of_ble_eq_true rfl) (fun r653438 w653439 dc653435 ds653436 hp653437 => ?_) (fun _ _ _ _ _ z => z.elim)
              obtain ⟨o653440, rfl, rfl, hdc, hds, bo653440, x653441⟩ := hp653437
              change G _ _ _ _ _ _ _ (.int o653440 :: _) _ _ _
              refine G_widen (cs' := 0) (sl' := 0) (by omega) (by omega) ?_
              refine G_if_eq 136 dr_cX14_word_93 (by decide +kernel) (fun hc653442 => ?_) (fun hc653442 => ?_)
              · have r653443 : o653440.toInt = 0 := gj_eq hc653442 (show Int32.toInt 0 = 0 by decide)
                have bo653440' : gB o653440 0 0 := ⟨by omega, by omega⟩
                clear bz651182 he651186 he651187 hfr651188 jn651189 bz653245 bz653249 bo653255 bo653255' he653264 he653265 hfr653266 bo653440 bo653440'; try clear r653253; try clear w653254; try clear dc653250; try clear ds653251; try clear hp653252; try clear x653256; try clear r653259; try clear r653438; try clear w653439; try clear dc653435; try clear ds653436; try clear hp653437; try clear x653441; try clear r653443
                refine G_aload_n 2 dr_cX14_word_136 rfl ?_
                refine G_lload_n 0 dr_cX14_word_137 rfl ?_
                refine G_l2i dr_cX14_word_138 (G_nam fun z653444 hz653444 => ?_)
                have bz653444 : gB z653444 (-2147483648) 2147483647 := gB_any z653444
                refine Gp_put 5 hmq651160 he653408 dr_cX14_word_139 (gk_X14 D I) (Nat.le_of_ble_eq_true rfl) wr_9_41 rfl rfl rfl (Nat.le_of_ble_eq_true rfl) (fun F653445 e653446 n653447 => ?_)
                have he653448 : F653445 q651161 = .inl (I .byte, 8192, .inl f651175) := (n653447 q651161 (rn_ao he653409 he653408)).trans he653409
                have he653449 : F653445 q651160 = .inr (19, [.ref q651161, .int p651162, .int g653406, .int 6, .int p651165, .int z653444, .int p651167, .ref qo651168, .int p651169, .int p651170, .int p651171, .ref qo651172, .ref qo651173, .int p651174]) := e653446
                have hfr653450 : rFr [q651160] P651158 F651159 F653445 := rFr_put' List.mem_cons_self hfr653410 n653447
                refine G_lload_n 0 dr_cX14_word_142 rfl ?_
                refine G_iload_n 1 dr_cX14_word_143 rfl ?_
                refine G_bipush 118 dr_cX14_word_144 (by decide +kernel) ?_
                refine G_icmp_ne 155 dr_cX14_word_146 (by decide +kernel) (fun hc => absurd (show False by have := gj_neq hc (show Int32.toInt 118 = 118 by decide); omega) not_false) (fun _ => ?_)
                refine G_ldc2 99 dr_cX14_word_149 wr_7_233 ?_
                refine G_goto 158 dr_cX14_word_152 (by decide +kernel) ?_
                refine G_lcmp dr_cX14_word_158 (G_nam fun z653451 hz653451 => ?_)
                have bz653451 : gB z653451 (-1) 1 := gB_cmp hz653451
                refine G_if_gt 177 dr_cX14_word_159 (by decide +kernel) (fun hc653452 => ?_) (fun hc653452 => ?_)
                · have r653453 : 0 < z653451.toInt := gj_ltL hc653452 (show Int32.toInt 0 = 0 by decide)
                  have bz653451' : gB z653451 1 1 := ⟨by omega, by omega⟩
                  have lhc653452 := gC_cmpS hz653451 (by omega)
                  exact G_vretA dr_cX14_word_177 rfl (show 0 ≤ ((16 * (p651162.toInt - p651163.toInt)).toNat) by omega) (show 0 ≤ ((256 * (p651162.toInt - p651163.toInt)).toNat) by omega) ⟨P651158, F653445, g653406, 6, z653444, qo651168, rfl, rfl, (rSub_rf (P := P651158)), hfr653450, he653449, he653448, (by omega), (by omega), (gB_w bg653406' (by decide) (by decide)), (gB_w (gBl (show Int32.toInt 6 = 6 by decide)) (by decide) (by decide)), (by have qa0 : Int32.toInt 6 = 6 := (by decide); omega), (by have qa0 : Int32.toInt 6 = 6 := (by decide); omega), (tP_no (by decide) (by decide)), (vP_no (by decide) (by decide))⟩
                · have r653454 : z653451.toInt ≤ 0 := gj_nltL hc653452 (show Int32.toInt 0 = 0 by decide)
                  have bz653451' : gB z653451 (-1) 0 := ⟨by omega, by omega⟩
                  refine G_aload_n 2 dr_cX14_word_162 rfl ?_
                  refine G_iload_n 1 dr_cX14_word_163 rfl ?_
                  refine G_bipush 118 dr_cX14_word_164 (by decide +kernel) ?_
                  refine G_icmp_ne 173 dr_cX14_word_166 (by decide +kernel) (fun hc => absurd (show False by have := gj_neq hc (show Int32.toInt 118 = 118 by decide); omega) not_false) (fun _ => ?_)
                  refine G_iconst 2 dr_cX14_word_169 (by decide +kernel) ?_
                  refine G_goto 174 dr_cX14_word_170 (by decide +kernel) ?_
                  refine Gp_put 3 hmq651160 he653449 dr_cX14_word_174 (gk_X14 D I) (Nat.le_of_ble_eq_true rfl) wr_9_39 rfl rfl rfl (Nat.le_of_ble_eq_true rfl) (fun F653455 e653456 n653457 => ?_)
                  have he653458 : F653455 q651161 = .inl (I .byte, 8192, .inl f651175) := (n653457 q651161 (rn_ao he653448 he653449)).trans he653448
                  have he653459 : F653455 q651160 = .inr (19, [.ref q651161, .int p651162, .int g653406, .int 2, .int p651165, .int z653444, .int p651167, .ref qo651168, .int p651169, .int p651170, .int p651171, .ref qo651172, .ref qo651173, .int p651174]) := e653456
                  have hfr653460 : rFr [q651160] P651158 F651159 F653455 := rFr_put' List.mem_cons_self hfr653450 n653457
                  exact G_vretA dr_cX14_word_177 rfl (show 0 ≤ ((16 * (p651162.toInt - p651163.toInt)).toNat) by omega) (show 0 ≤ ((256 * (p651162.toInt - p651163.toInt)).toNat) by omega) ⟨P651158, F653455, g653406, 2, z653444, qo651168, rfl, rfl, (rSub_rf (P := P651158)), hfr653460, he653459, he653458, (by omega), (by omega), (gB_w bg653406' (by decide) (by decide)), (gB_w (gBl (show Int32.toInt 2 = 2 by decide)) (by decide) (by decide)), (by have qa0 : Int32.toInt 2 = 2 := (by decide); omega), (by have qa0 : Int32.toInt 2 = 2 := (by decide); omega), (tP_no (by decide) (by decide)), (vP_r (by assumption) (by assumption) (by assumption) (by omega))⟩
              · have r653461 : o653440.toInt ≠ 0 := gj_neq hc653442 (show Int32.toInt 0 = 0 by decide)
                have bo653440' : gB o653440 1 1 := ⟨by omega, by omega⟩
                have bi653462 : gB z653434 48 57 := isP_1 x653441 (by omega)
                refine G_lload_n 0 dr_cX14_word_96 rfl ?_
                refine G_ldc2 10 dr_cX14_word_97 wr_7_229 ?_
                refine G_lmul dr_cX14_word_100 (G_namL fun u653463 hu653463 => ?_)
                refine G_aload_n 2 dr_cX14_word_101 rfl ?_
                refine Gp_get 0 hmq651160 he653408 dr_cX14_word_102 (gk_X14 D I) (Nat.le_of_ble_eq_true rfl) wr_9_36 rfl ?_
                refine G_aload_n 2 dr_cX14_word_105 rfl ?_
                refine Gp_get 2 hmq651160 he653408 dr_cX14_word_106 (gk_X14 D I) (Nat.le_of_ble_eq_true rfl) wr_9_38 rfl ?_
                refine Gp_bald 1 hmq651161 he653409 dr_cX14_word_109 rfl (gB_in bg653406' (by decide) (by decide)) (G_eqi (y := z653434) hz653434.symm ?_)
                refine G_i2l dr_cX14_word_110 (G_namL fun u653464 hu653464 => ?_)
                refine G_ladd dr_cX14_word_111 (G_namL fun u653465 hu653465 => ?_)
                refine G_ldc2 48 dr_cX14_word_112 wr_7_230 ?_
                refine G_lsub dr_cX14_word_115 (G_namL fun u653466 hu653466 => ?_)
                refine G_ldc2 1000000 dr_cX14_word_116 wr_7_231 ?_
                refine Gw_callS (As := [.long u653466, .long 1000000]) (gV_ok D I) (cp_649672_Math_min l hl0 D I P651158 F653407 u653466 1000000 ) dr_cX14_word_119 ⟨wr_7_232, wr_1_6, wr_3_40, by decide, rfl, (Nat.le_of_ble_eq_true rfl), (Nat.le_of_ble_eq_true rfl)⟩ wr_3_39 (show 0 + 0 ≤ ((16 * (p651162.toInt - p651163.toInt)).toNat) by first | omega | decide) (show 0 + 0 ≤ ((256 * (p651162.toInt - p651163.toInt)).toNat) by first | omega | decide) (Nat.le_of_ble_eq_true rfl) (fun r653470 w653471 dc653467 ds653468 hp653469 => ?_) (fun _ _ _ _ _ z => z.elim)
                obtain ⟨ol653472, rfl, rfl, hdc, hds, x653473⟩ := hp653469
                change G _ _ _ _ _ _ _ (.long ol653472 :: _) _ _ _
                refine G_widen (cs' := 0) (sl' := 0) (by omega) (by omega) ?_
                refine G_lstore_n (L' := [(2, .long ol653472), (1, .int z651182), (0, .ref q651160)]) dr_cX14_word_122 (Nat.le_of_ble_eq_true rfl) rfl ?_
                refine G_aload_n 2 dr_cX14_word_123 rfl ?_
                refine G_dup dr_cX14_word_124 rfl ?_
                refine Gp_get 2 hmq651160 he653408 dr_cX14_word_125 (gk_X14 D I) (Nat.le_of_ble_eq_true rfl) wr_9_38 rfl ?_
                refine G_iconst 1 dr_cX14_word_128 (by decide +kernel) ?_
                refine G_iadd dr_cX14_word_129 (G_nam fun z653474 hz653474 => ?_)
                have ez653474 : z653474.toInt = g653406.toInt + 1 := by rw [gI_add hz653474 bg653406' (gBl (show Int32.toInt 1 = 1 by decide)) (by decide) (by decide), show Int32.toInt 1 = 1 from by decide]
                have bz653474 : gB z653474 1 8192 := gB_add (gI_add hz653474 bg653406' (gBl (show Int32.toInt 1 = 1 by decide)) (by decide) (by decide)) bg653406' (gBl (show Int32.toInt 1 = 1 by decide)) (by decide) (by decide)
                refine Gp_put 2 hmq651160 he653408 dr_cX14_word_130 (gk_X14 D I) (Nat.le_of_ble_eq_true rfl) wr_9_38 rfl rfl rfl (Nat.le_of_ble_eq_true rfl) (fun F653475 e653476 n653477 => ?_)
                have he653478 : F653475 q651161 = .inl (I .byte, 8192, .inl f651175) := (n653477 q651161 (rn_ao he653409 he653408)).trans he653409
                have he653479 : F653475 q651160 = .inr (19, [.ref q651161, .int p651162, .int z653474, .int 6, .int p651165, .int p651166, .int p651167, .ref qo651168, .int p651169, .int p651170, .int p651171, .ref qo651172, .ref qo651173, .int p651174]) := e653476
                have hfr653480 : rFr [q651160] P651158 F651159 F653475 := rFr_put' List.mem_cons_self hfr653410 n653477
                refine G_goto 70 dr_cX14_word_133 (by decide +kernel) ?_
                exact ih70_653413 F653475 ol653472 z653474 (gB_w bz653474 (by decide) (by decide)) hfr653480 he653479 he653478 (lgSt (by assumption) (by assumption) (by assumption) (by assumption) (by assumption) (by assumption) (by omega) (by omega)) (by have qa0 : Int32.toInt 6 = 6 := (by decide); omega) (by have qa0 : Int32.toInt 6 = 6 := (by decide); omega) (by have qa0 : Int32.toInt 6 = 6 := (by decide); omega)
        exact hlp70_653413 (((8193 : Int) - z653245.toInt).toNat + 1) F653261 0 z653245 (gB_w bz653245' (by decide) (by decide)) hfr653266 he653265 he653264 LG_0 (by have qa0 : Int32.toInt 6 = 6 := (by decide); omega) (by have qa0 : Int32.toInt 6 = 6 := (by decide); omega) (Nat.lt_succ_self _)
  · have r653481 : z651182.toInt ≠ 118 := gj_neq hc653243 (show Int32.toInt 118 = 118 by decide)
    refine G_iload_n 0 dr_cX14_word_22 rfl ?_
    refine G_bipush 98 dr_cX14_word_23 (by decide +kernel) ?_
    refine G_icmp_ne 178 dr_cX14_word_25 (by decide +kernel) (fun hc653482 => ?_) (fun hc653482 => ?_)
    · have r653483 : z651182.toInt ≠ 98 := gj_neq hc653482 (show Int32.toInt 98 = 98 by decide)
      refine G_lv (L' := [(1, .int z651182), (0, .ref q651160)]) [0, 1] rfl ?_
      exact jn651189
    · have r653484 : z651182.toInt = 98 := gj_eq hc653482 (show Int32.toInt 98 = 98 by decide)
      have bz651182' : gB z651182 98 98 := ⟨by omega, by omega⟩
      refine G_aload_n 1 dr_cX14_word_28 rfl ?_
      refine Gp_get 2 hmq651160 he651187 dr_cX14_word_29 (gk_X14 D I) (Nat.le_of_ble_eq_true rfl) wr_9_38 rfl ?_
      refine G_iconst 1 dr_cX14_word_32 (by decide +kernel) ?_
      refine G_iadd dr_cX14_word_33 (G_nam fun z653485 hz653485 => ?_)
      have ez653485 : z653485.toInt = p651163.toInt + 1 := by rw [gI_add hz653485 bp651163 (gBl (show Int32.toInt 1 = 1 by decide)) (by decide) (by decide), show Int32.toInt 1 = 1 from by decide]
      have bz653485 : gB z653485 1 8193 := gB_add (gI_add hz653485 bp651163 (gBl (show Int32.toInt 1 = 1 by decide)) (by decide) (by decide)) bp651163 (gBl (show Int32.toInt 1 = 1 by decide)) (by decide) (by decide)
      refine G_aload_n 1 dr_cX14_word_34 rfl ?_
      refine Gp_get 1 hmq651160 he651187 dr_cX14_word_35 (gk_X14 D I) (Nat.le_of_ble_eq_true rfl) wr_9_37 rfl ?_
      refine G_icmp_ge 178 dr_cX14_word_38 (by decide +kernel) (fun hc653486 => ?_) (fun hc653486 => ?_)
      · have r653487 : p651162.toInt ≤ z653485.toInt := gC_le hc653486
        refine G_lv (L' := [(1, .int z651182), (0, .ref q651160)]) [0, 1] rfl ?_
        exact jn651189
      · have r653488 : z653485.toInt < p651162.toInt := gC_nle hc653486
        have bz653485' : gB z653485 1 8191 := ⟨by omega, by omega⟩
        have bp651162' : gB p651162 2 8192 := ⟨by omega, by omega⟩
        refine G_aload_n 1 dr_cX14_word_41 rfl ?_
        refine Gp_get 0 hmq651160 he651187 dr_cX14_word_42 (gk_X14 D I) (Nat.le_of_ble_eq_true rfl) wr_9_36 rfl ?_
        refine G_aload_n 1 dr_cX14_word_45 rfl ?_
        refine Gp_get 2 hmq651160 he651187 dr_cX14_word_46 (gk_X14 D I) (Nat.le_of_ble_eq_true rfl) wr_9_38 rfl ?_
        refine G_iconst 1 dr_cX14_word_49 (by decide +kernel) ?_
        refine G_iadd dr_cX14_word_50 (G_eqi (y := z653485) hz653485.symm ?_)
        refine Gp_bald 1 hmq651161 he651186 dr_cX14_word_51 rfl (gB_in bz653485' (by decide) (by decide)) (G_nam fun z653489 hz653489 => ?_)
        have bz653489 : gB z653489 (-128) 127 := by rw [hz653489]; exact bf651175 _
        refine Gw_callS (As := [.int z653489]) (gV_ok D I) (cp_649619_Reader_isDigit l hl0 D I P651158 F651183 z653489 ) dr_cX14_word_52 ⟨wr_7_219, wr_1_32, wr_7_221, by decide, rfl, (Nat.le_of_ble_eq_true rfl), (Nat.le_of_ble_eq_true rfl)⟩ wr_7_220 (show 0 + 0 ≤ ((16 * (p651162.toInt - p651163.toInt)).toNat) by first | omega | decide) (show 0 + 0 ≤ ((256 * (p651162.toInt - p651163.toInt)).toNat) by first | omega | decide) (Nat.le_of_ble_eq_true rfl) (fun r653493 w653494 dc653490 ds653491 hp653492 => ?_) (fun _ _ _ _ _ z => z.elim)
        obtain ⟨o653495, rfl, rfl, hdc, hds, bo653495, x653496⟩ := hp653492
        change G _ _ _ _ _ _ _ (.int o653495 :: _) _ _ _
        refine G_widen (cs' := 0) (sl' := 0) (by omega) (by omega) ?_
        refine G_if_eq 178 dr_cX14_word_55 (by decide +kernel) (fun hc653497 => ?_) (fun hc653497 => ?_)
        · have r653498 : o653495.toInt = 0 := gj_eq hc653497 (show Int32.toInt 0 = 0 by decide)
          have bo653495' : gB o653495 0 0 := ⟨by omega, by omega⟩
          refine G_lv (L' := [(1, .int z651182), (0, .ref q651160)]) [0, 1] rfl ?_
          exact jn651189
        · have r653499 : o653495.toInt ≠ 0 := gj_neq hc653497 (show Int32.toInt 0 = 0 by decide)
          have bo653495' : gB o653495 1 1 := ⟨by omega, by omega⟩
          have bi653500 : gB z653489 48 57 := isP_1 x653496 (by omega)
          refine G_lconst 0 dr_cX14_word_58 rfl ?_
          refine G_lstore_n (L' := [(2, .long 0), (1, .int z651182), (0, .ref q651160)]) dr_cX14_word_59 (Nat.le_of_ble_eq_true rfl) rfl ?_
          refine G_aload_n 2 dr_cX14_word_60 rfl ?_
          refine G_dup dr_cX14_word_61 rfl ?_
          refine Gp_get 2 hmq651160 he651187 dr_cX14_word_62 (gk_X14 D I) (Nat.le_of_ble_eq_true rfl) wr_9_38 rfl ?_
          refine G_iconst 1 dr_cX14_word_65 (by decide +kernel) ?_
          refine G_iadd dr_cX14_word_66 (G_eqi (y := z653485) hz653485.symm ?_)
          refine Gp_put 2 hmq651160 he651187 dr_cX14_word_67 (gk_X14 D I) (Nat.le_of_ble_eq_true rfl) wr_9_38 rfl rfl rfl (Nat.le_of_ble_eq_true rfl) (fun F653501 e653502 n653503 => ?_)
          have he653504 : F653501 q651161 = .inl (I .byte, 8192, .inl f651175) := (n653503 q651161 (rn_ao he651186 he651187)).trans he651186
          have he653505 : F653501 q651160 = .inr (19, [.ref q651161, .int p651162, .int z653485, .int 6, .int p651165, .int p651166, .int p651167, .ref qo651168, .int p651169, .int p651170, .int p651171, .ref qo651172, .ref qo651173, .int p651174]) := e653502
          have hfr653506 : rFr [q651160] P651158 F651159 F653501 := rFr_put' List.mem_cons_self hfr651188 n653503
          have hlp70_653653 : ∀ (n70_653653 : Nat) (F653647 : Nat → va_E) (gl653645 : Int64) (g653646 : Int32), gB g653646 0 8192 → rFr [q651160] P651158 F651159 F653647 → F653647 q651160 = .inr (19, [.ref q651161, .int p651162, .int g653646, .int 6, .int p651165, .int p651166, .int p651167, .ref qo651168, .int p651169, .int p651170, .int p651171, .ref qo651172, .ref qo651173, .int p651174]) → F653647 q651161 = .inl (I .byte, 8192, .inl f651175) → LG gl653645 0 1000000 → p651163.toInt < g653646.toInt → g653646.toInt ≤ p651162.toInt → ((8193 : Int) - g653646.toInt).toNat < n70_653653 → G (gV D I) l (gRm 6 132 ((16 * (p651162.toInt - p651163.toInt)).toNat) ((256 * (p651162.toInt - p651163.toInt)).toNat)) (gMA (gV D I) (pp_651181_Reader_word D I P651158 F651159 q651160 q651161 p651162 p651163 p651164 p651165 p651166 p651167 qo651168 p651169 p651170 p651171 qo651172 qo651173 p651174 f651175) gNA ((16 * (p651162.toInt - p651163.toInt)).toNat) ((256 * (p651162.toInt - p651163.toInt)).toNat)) ky_651181_Reader_word 70 [(2, .long gl653645), (1, .int z651182), (0, .ref q651160)] [] (va_pl P651158 F653647) 0 0 := by
            intro n70_653653
            induction n70_653653 with
            | zero => intro F653647 gl653645 g653646 bg653646 hfr653650 he653648 he653649 x653651 x653652 x653653 hm70_653653; exact absurd hm70_653653 (Nat.not_lt_zero _)
            | succ n70_653653 ih70_653653 =>
              intro F653647 gl653645 g653646 bg653646 hfr653650 he653648 he653649 x653651 x653652 x653653 hm70_653653
              refine G_aload_n 2 dr_cX14_word_70 rfl ?_
              refine Gp_get 2 hmq651160 he653648 dr_cX14_word_71 (gk_X14 D I) (Nat.le_of_ble_eq_true rfl) wr_9_38 rfl ?_
              refine G_aload_n 2 dr_cX14_word_74 rfl ?_
              refine Gp_get 1 hmq651160 he653648 dr_cX14_word_75 (gk_X14 D I) (Nat.le_of_ble_eq_true rfl) wr_9_37 rfl ?_
              refine G_icmp_ge 136 dr_cX14_word_78 (by decide +kernel) (fun hc653654 => ?_) (fun hc653654 => ?_)
              · have r653655 : p651162.toInt ≤ g653646.toInt := gC_le hc653654
                have bg653646' : gB g653646 2 8192 := ⟨by omega, by omega⟩
                clear bz651182 he651186 he651187 hfr651188 jn651189 bz653485 bz653489 bo653495 bo653495' he653504 he653505 hfr653506; try clear r653493; try clear w653494; try clear dc653490; try clear ds653491; try clear hp653492; try clear x653496; try clear r653499
                refine G_aload_n 2 dr_cX14_word_136 rfl ?_
                refine G_lload_n 0 dr_cX14_word_137 rfl ?_
                refine G_l2i dr_cX14_word_138 (G_nam fun z653656 hz653656 => ?_)
                have bz653656 : gB z653656 (-2147483648) 2147483647 := gB_any z653656
                refine Gp_put 5 hmq651160 he653648 dr_cX14_word_139 (gk_X14 D I) (Nat.le_of_ble_eq_true rfl) wr_9_41 rfl rfl rfl (Nat.le_of_ble_eq_true rfl) (fun F653657 e653658 n653659 => ?_)
                have he653660 : F653657 q651161 = .inl (I .byte, 8192, .inl f651175) := (n653659 q651161 (rn_ao he653649 he653648)).trans he653649
                have he653661 : F653657 q651160 = .inr (19, [.ref q651161, .int p651162, .int g653646, .int 6, .int p651165, .int z653656, .int p651167, .ref qo651168, .int p651169, .int p651170, .int p651171, .ref qo651172, .ref qo651173, .int p651174]) := e653658
                have hfr653662 : rFr [q651160] P651158 F651159 F653657 := rFr_put' List.mem_cons_self hfr653650 n653659
                refine G_lload_n 0 dr_cX14_word_142 rfl ?_
                refine G_iload_n 1 dr_cX14_word_143 rfl ?_
                refine G_bipush 118 dr_cX14_word_144 (by decide +kernel) ?_
                refine G_icmp_ne 155 dr_cX14_word_146 (by decide +kernel) (fun _ => ?_) (fun hc => absurd (show False by have := gj_eq hc (show Int32.toInt 118 = 118 by decide); omega) not_false)
                refine G_ldc2 39 dr_cX14_word_155 wr_7_234 ?_
                refine G_lcmp dr_cX14_word_158 (G_nam fun z653663 hz653663 => ?_)
                have bz653663 : gB z653663 (-1) 1 := gB_cmp hz653663
                refine G_if_gt 177 dr_cX14_word_159 (by decide +kernel) (fun hc653664 => ?_) (fun hc653664 => ?_)
                · have r653665 : 0 < z653663.toInt := gj_ltL hc653664 (show Int32.toInt 0 = 0 by decide)
                  have bz653663' : gB z653663 1 1 := ⟨by omega, by omega⟩
                  have lhc653664 := gC_cmpS hz653663 (by omega)
                  exact G_vretA dr_cX14_word_177 rfl (show 0 ≤ ((16 * (p651162.toInt - p651163.toInt)).toNat) by omega) (show 0 ≤ ((256 * (p651162.toInt - p651163.toInt)).toNat) by omega) ⟨P651158, F653657, g653646, 6, z653656, qo651168, rfl, rfl, (rSub_rf (P := P651158)), hfr653662, he653661, he653660, (by omega), (by omega), (gB_w bg653646' (by decide) (by decide)), (gB_w (gBl (show Int32.toInt 6 = 6 by decide)) (by decide) (by decide)), (by have qa0 : Int32.toInt 6 = 6 := (by decide); omega), (by have qa0 : Int32.toInt 6 = 6 := (by decide); omega), (tP_no (by decide) (by decide)), (vP_no (by decide) (by decide))⟩
                · have r653666 : z653663.toInt ≤ 0 := gj_nltL hc653664 (show Int32.toInt 0 = 0 by decide)
                  have bz653663' : gB z653663 (-1) 0 := ⟨by omega, by omega⟩
                  refine G_aload_n 2 dr_cX14_word_162 rfl ?_
                  refine G_iload_n 1 dr_cX14_word_163 rfl ?_
                  refine G_bipush 118 dr_cX14_word_164 (by decide +kernel) ?_
                  refine G_icmp_ne 173 dr_cX14_word_166 (by decide +kernel) (fun _ => ?_) (fun hc => absurd (show False by have := gj_eq hc (show Int32.toInt 118 = 118 by decide); omega) not_false)
                  refine G_iconst 3 dr_cX14_word_173 (by decide +kernel) ?_
                  refine Gp_put 3 hmq651160 he653661 dr_cX14_word_174 (gk_X14 D I) (Nat.le_of_ble_eq_true rfl) wr_9_39 rfl rfl rfl (Nat.le_of_ble_eq_true rfl) (fun F653667 e653668 n653669 => ?_)
                  have he653670 : F653667 q651161 = .inl (I .byte, 8192, .inl f651175) := (n653669 q651161 (rn_ao he653660 he653661)).trans he653660
                  have he653671 : F653667 q651160 = .inr (19, [.ref q651161, .int p651162, .int g653646, .int 3, .int p651165, .int z653656, .int p651167, .ref qo651168, .int p651169, .int p651170, .int p651171, .ref qo651172, .ref qo651173, .int p651174]) := e653668
                  have hfr653672 : rFr [q651160] P651158 F651159 F653667 := rFr_put' List.mem_cons_self hfr653662 n653669
                  exact G_vretA dr_cX14_word_177 rfl (show 0 ≤ ((16 * (p651162.toInt - p651163.toInt)).toNat) by omega) (show 0 ≤ ((256 * (p651162.toInt - p651163.toInt)).toNat) by omega) ⟨P651158, F653667, g653646, 3, z653656, qo651168, rfl, rfl, (rSub_rf (P := P651158)), hfr653672, he653671, he653670, (by omega), (by omega), (gB_w bg653646' (by decide) (by decide)), (gB_w (gBl (show Int32.toInt 3 = 3 by decide)) (by decide) (by decide)), (by have qa0 : Int32.toInt 3 = 3 := (by decide); omega), (by have qa0 : Int32.toInt 3 = 3 := (by decide); omega), (tP_no (by decide) (by decide)), (vP_b (by assumption) (by assumption) (by assumption) (by omega))⟩
              · have r653673 : g653646.toInt < p651162.toInt := gC_nle hc653654
                have bg653646' : gB g653646 0 8191 := ⟨by omega, by omega⟩
                refine G_aload_n 2 dr_cX14_word_81 rfl ?_
                refine Gp_get 0 hmq651160 he653648 dr_cX14_word_82 (gk_X14 D I) (Nat.le_of_ble_eq_true rfl) wr_9_36 rfl ?_
                refine G_aload_n 2 dr_cX14_word_85 rfl ?_
                refine Gp_get 2 hmq651160 he653648 dr_cX14_word_86 (gk_X14 D I) (Nat.le_of_ble_eq_true rfl) wr_9_38 rfl ?_
                refine Gp_bald 1 hmq651161 he653649 dr_cX14_word_89 rfl (gB_in bg653646' (by decide) (by decide)) (G_nam fun z653674 hz653674 => ?_)
                have bz653674 : gB z653674 (-128) 127 := by rw [hz653674]; exact bf651175 _
                refine Gw_callS (As := [.int z653674]) (gV_ok D I) (cp_649619_Reader_isDigit l hl0 D I P651158 F653647 z653674 ) dr_cX14_word_90 ⟨wr_7_219, wr_1_32, wr_7_221, by decide, rfl, (Nat.le_of_ble_eq_true rfl), (Nat.le_of_ble_eq_true rfl)⟩ wr_7_220 (show 0 + 0 ≤ ((16 * (p651162.toInt - p651163.toInt)).toNat) by first | omega | decide) (show 0 + 0 ≤ ((256 * (p651162.toInt - p651163.toInt)).toNat) by first | omega | decide) (Nat.le_of_ble_eq_true rfl) (fun r653678 w653679 dc653675 ds653676 hp653677 => ?_) (fun _ _ _ _ _ z => z.elim)
                obtain ⟨o653680, rfl, rfl, hdc, hds, bo653680, x653681⟩ := hp653677
                change G _ _ _ _ _ _ _ (.int o653680 :: _) _ _ _
                refine G_widen (cs' := 0) (sl' := 0) (by omega) (by omega) ?_
                refine G_if_eq 136 dr_cX14_word_93 (by decide +kernel) (fun hc653682 => ?_) (fun hc653682 => ?_)
                · have r653683 : o653680.toInt = 0 := gj_eq hc653682 (show Int32.toInt 0 = 0 by decide)
                  have bo653680' : gB o653680 0 0 := ⟨by omega, by omega⟩
                  clear bz651182 he651186 he651187 hfr651188 jn651189 bz653485 bz653489 bo653495 bo653495' he653504 he653505 hfr653506 bo653680 bo653680'; try clear r653493; try clear w653494; try clear dc653490; try clear ds653491; try clear hp653492; try clear x653496; try clear r653499; try clear r653678; try clear w653679; try clear dc653675; try clear ds653676; try clear hp653677; try clear x653681; try clear r653683
                  refine G_aload_n 2 dr_cX14_word_136 rfl ?_
                  refine G_lload_n 0 dr_cX14_word_137 rfl ?_
                  refine G_l2i dr_cX14_word_138 (G_nam fun z653684 hz653684 => ?_)
                  have bz653684 : gB z653684 (-2147483648) 2147483647 := gB_any z653684
                  refine Gp_put 5 hmq651160 he653648 dr_cX14_word_139 (gk_X14 D I) (Nat.le_of_ble_eq_true rfl) wr_9_41 rfl rfl rfl (Nat.le_of_ble_eq_true rfl) (fun F653685 e653686 n653687 => ?_)
                  have he653688 : F653685 q651161 = .inl (I .byte, 8192, .inl f651175) := (n653687 q651161 (rn_ao he653649 he653648)).trans he653649
                  have he653689 : F653685 q651160 = .inr (19, [.ref q651161, .int p651162, .int g653646, .int 6, .int p651165, .int z653684, .int p651167, .ref qo651168, .int p651169, .int p651170, .int p651171, .ref qo651172, .ref qo651173, .int p651174]) := e653686
                  have hfr653690 : rFr [q651160] P651158 F651159 F653685 := rFr_put' List.mem_cons_self hfr653650 n653687
                  refine G_lload_n 0 dr_cX14_word_142 rfl ?_
                  refine G_iload_n 1 dr_cX14_word_143 rfl ?_
                  refine G_bipush 118 dr_cX14_word_144 (by decide +kernel) ?_
                  refine G_icmp_ne 155 dr_cX14_word_146 (by decide +kernel) (fun _ => ?_) (fun hc => absurd (show False by have := gj_eq hc (show Int32.toInt 118 = 118 by decide); omega) not_false)
                  refine G_ldc2 39 dr_cX14_word_155 wr_7_234 ?_
                  refine G_lcmp dr_cX14_word_158 (G_nam fun z653691 hz653691 => ?_)
                  have bz653691 : gB z653691 (-1) 1 := gB_cmp hz653691
                  refine G_if_gt 177 dr_cX14_word_159 (by decide +kernel) (fun hc653692 => ?_) (fun hc653692 => ?_)
                  · have r653693 : 0 < z653691.toInt := gj_ltL hc653692 (show Int32.toInt 0 = 0 by decide)
                    have bz653691' : gB z653691 1 1 := ⟨by omega, by omega⟩
                    have lhc653692 := gC_cmpS hz653691 (by omega)
                    exact G_vretA dr_cX14_word_177 rfl (show 0 ≤ ((16 * (p651162.toInt - p651163.toInt)).toNat) by omega) (show 0 ≤ ((256 * (p651162.toInt - p651163.toInt)).toNat) by omega) ⟨P651158, F653685, g653646, 6, z653684, qo651168, rfl, rfl, (rSub_rf (P := P651158)), hfr653690, he653689, he653688, (by omega), (by omega), (gB_w bg653646' (by decide) (by decide)), (gB_w (gBl (show Int32.toInt 6 = 6 by decide)) (by decide) (by decide)), (by have qa0 : Int32.toInt 6 = 6 := (by decide); omega), (by have qa0 : Int32.toInt 6 = 6 := (by decide); omega), (tP_no (by decide) (by decide)), (vP_no (by decide) (by decide))⟩
                  · have r653694 : z653691.toInt ≤ 0 := gj_nltL hc653692 (show Int32.toInt 0 = 0 by decide)
                    have bz653691' : gB z653691 (-1) 0 := ⟨by omega, by omega⟩
                    refine G_aload_n 2 dr_cX14_word_162 rfl ?_
                    refine G_iload_n 1 dr_cX14_word_163 rfl ?_
                    refine G_bipush 118 dr_cX14_word_164 (by decide +kernel) ?_
                    refine G_icmp_ne 173 dr_cX14_word_166 (by decide +kernel) (fun _ => ?_) (fun hc => absurd (show False by have := gj_eq hc (show Int32.toInt 118 = 118 by decide); omega) not_false)
                    refine G_iconst 3 dr_cX14_word_173 (by decide +kernel) ?_
                    refine Gp_put 3 hmq651160 he653689 dr_cX14_word_174 (gk_X14 D I) (Nat.le_of_ble_eq_true rfl) wr_9_39 rfl rfl rfl (Nat.le_of_ble_eq_true rfl) (fun F653695 e653696 n653697 => ?_)
                    have he653698 : F653695 q651161 = .inl (I .byte, 8192, .inl f651175) := (n653697 q651161 (rn_ao he653688 he653689)).trans he653688
                    have he653699 : F653695 q651160 = .inr (19, [.ref q651161, .int p651162, .int g653646, .int 3, .int p651165, .int z653684, .int p651167, .ref qo651168, .int p651169, .int p651170, .int p651171, .ref qo651172, .ref qo651173, .int p651174]) := e653696
                    have hfr653700 : rFr [q651160] P651158 F651159 F653695 := rFr_put' List.mem_cons_self hfr653690 n653697
                    exact G_vretA dr_cX14_word_177 rfl (show 0 ≤ ((16 * (p651162.toInt - p651163.toInt)).toNat) by omega) (show 0 ≤ ((256 * (p651162.toInt - p651163.toInt)).toNat) by omega) ⟨P651158, F653695, g653646, 3, z653684, qo651168, rfl, rfl, (rSub_rf (P := P651158)), hfr653700, he653699, he653698, (by omega), (by omega), (gB_w bg653646' (by decide) (by decide)), (gB_w (gBl (show Int32.toInt 3 = 3 by decide)) (by decide) (by decide)), (by have qa0 : Int32.toInt 3 = 3 := (by decide); omega), (by have qa0 : Int32.toInt 3 = 3 := (by decide); omega), (tP_no (by decide) (by decide)), (vP_b (by assumption) (by assumption) (by assumption) (by omega))⟩
                · have r653701 : o653680.toInt ≠ 0 := gj_neq hc653682 (show Int32.toInt 0 = 0 by decide)
                  have bo653680' : gB o653680 1 1 := ⟨by omega, by omega⟩
                  have bi653702 : gB z653674 48 57 := isP_1 x653681 (by omega)
                  refine G_lload_n 0 dr_cX14_word_96 rfl ?_
                  refine G_ldc2 10 dr_cX14_word_97 wr_7_229 ?_
                  refine G_lmul dr_cX14_word_100 (G_namL fun u653703 hu653703 => ?_)
                  refine G_aload_n 2 dr_cX14_word_101 rfl ?_
                  refine Gp_get 0 hmq651160 he653648 dr_cX14_word_102 (gk_X14 D I) (Nat.le_of_ble_eq_true rfl) wr_9_36 rfl ?_
                  refine G_aload_n 2 dr_cX14_word_105 rfl ?_
                  refine Gp_get 2 hmq651160 he653648 dr_cX14_word_106 (gk_X14 D I) (Nat.le_of_ble_eq_true rfl) wr_9_38 rfl ?_
                  refine Gp_bald 1 hmq651161 he653649 dr_cX14_word_109 rfl (gB_in bg653646' (by decide) (by decide)) (G_eqi (y := z653674) hz653674.symm ?_)
                  refine G_i2l dr_cX14_word_110 (G_namL fun u653704 hu653704 => ?_)
                  refine G_ladd dr_cX14_word_111 (G_namL fun u653705 hu653705 => ?_)
                  refine G_ldc2 48 dr_cX14_word_112 wr_7_230 ?_
                  refine G_lsub dr_cX14_word_115 (G_namL fun u653706 hu653706 => ?_)
                  refine G_ldc2 1000000 dr_cX14_word_116 wr_7_231 ?_
                  refine Gw_callS (As := [.long u653706, .long 1000000]) (gV_ok D I) (cp_649672_Math_min l hl0 D I P651158 F653647 u653706 1000000 ) dr_cX14_word_119 ⟨wr_7_232, wr_1_6, wr_3_40, by decide, rfl, (Nat.le_of_ble_eq_true rfl), (Nat.le_of_ble_eq_true rfl)⟩ wr_3_39 (show 0 + 0 ≤ ((16 * (p651162.toInt - p651163.toInt)).toNat) by first | omega | decide) (show 0 + 0 ≤ ((256 * (p651162.toInt - p651163.toInt)).toNat) by first | omega | decide) (Nat.le_of_ble_eq_true rfl) (fun r653710 w653711 dc653707 ds653708 hp653709 => ?_) (fun _ _ _ _ _ z => z.elim)
                  obtain ⟨ol653712, rfl, rfl, hdc, hds, x653713⟩ := hp653709
                  change G _ _ _ _ _ _ _ (.long ol653712 :: _) _ _ _
                  refine G_widen (cs' := 0) (sl' := 0) (by omega) (by omega) ?_
                  refine G_lstore_n (L' := [(2, .long ol653712), (1, .int z651182), (0, .ref q651160)]) dr_cX14_word_122 (Nat.le_of_ble_eq_true rfl) rfl ?_
                  refine G_aload_n 2 dr_cX14_word_123 rfl ?_
                  refine G_dup dr_cX14_word_124 rfl ?_
                  refine Gp_get 2 hmq651160 he653648 dr_cX14_word_125 (gk_X14 D I) (Nat.le_of_ble_eq_true rfl) wr_9_38 rfl ?_
                  refine G_iconst 1 dr_cX14_word_128 (by decide +kernel) ?_
                  refine G_iadd dr_cX14_word_129 (G_nam fun z653714 hz653714 => ?_)
                  have ez653714 : z653714.toInt = g653646.toInt + 1 := by rw [gI_add hz653714 bg653646' (gBl (show Int32.toInt 1 = 1 by decide)) (by decide) (by decide), show Int32.toInt 1 = 1 from by decide]
                  have bz653714 : gB z653714 1 8192 := gB_add (gI_add hz653714 bg653646' (gBl (show Int32.toInt 1 = 1 by decide)) (by decide) (by decide)) bg653646' (gBl (show Int32.toInt 1 = 1 by decide)) (by decide) (by decide)
                  refine Gp_put 2 hmq651160 he653648 dr_cX14_word_130 (gk_X14 D I) (Nat.le_of_ble_eq_true rfl) wr_9_38 rfl rfl rfl (Nat.le_of_ble_eq_true rfl) (fun F653715 e653716 n653717 => ?_)
                  have he653718 : F653715 q651161 = .inl (I .byte, 8192, .inl f651175) := (n653717 q651161 (rn_ao he653649 he653648)).trans he653649
                  have he653719 : F653715 q651160 = .inr (19, [.ref q651161, .int p651162, .int z653714, .int 6, .int p651165, .int p651166, .int p651167, .ref qo651168, .int p651169, .int p651170, .int p651171, .ref qo651172, .ref qo651173, .int p651174]) := e653716
                  have hfr653720 : rFr [q651160] P651158 F651159 F653715 := rFr_put' List.mem_cons_self hfr653650 n653717
                  refine G_goto 70 dr_cX14_word_133 (by decide +kernel) ?_
                  exact ih70_653653 F653715 ol653712 z653714 (gB_w bz653714 (by decide) (by decide)) hfr653720 he653719 he653718 (lgSt (by assumption) (by assumption) (by assumption) (by assumption) (by assumption) (by assumption) (by omega) (by omega)) (by have qa0 : Int32.toInt 6 = 6 := (by decide); omega) (by have qa0 : Int32.toInt 6 = 6 := (by decide); omega) (by have qa0 : Int32.toInt 6 = 6 := (by decide); omega)
          exact hlp70_653653 (((8193 : Int) - z653485.toInt).toNat + 1) F653501 0 z653485 (gB_w bz653485' (by decide) (by decide)) hfr653506 he653505 he653504 LG_0 (by have qa0 : Int32.toInt 6 = 6 := (by decide); omega) (by have qa0 : Int32.toInt 6 = 6 := (by decide); omega) (Nat.lt_succ_self _)
