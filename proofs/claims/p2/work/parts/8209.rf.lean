theorem dr_cX14_word_0 : decode cX14_word 0 = .ok (.aload_n 0, 1) := by decide +kernel
theorem dr_cX14_word_1 : decode cX14_word 1 = .ok (.getfield 28, 3) := by decide +kernel
theorem dr_cX14_word_4 : decode cX14_word 4 = .ok (.aload_n 0, 1) := by decide +kernel
theorem dr_cX14_word_5 : decode cX14_word 5 = .ok (.getfield 44, 3) := by decide +kernel
theorem dr_cX14_word_8 : decode cX14_word 8 = .ok (.baload, 1) := by decide +kernel
theorem dr_cX14_word_9 : decode cX14_word 9 = .ok (.istore_n 1, 1) := by decide +kernel
theorem dr_cX14_word_10 : decode cX14_word 10 = .ok (.aload_n 0, 1) := by decide +kernel
theorem dr_cX14_word_11 : decode cX14_word 11 = .ok (.bipush 6, 2) := by decide +kernel
theorem dr_cX14_word_13 : decode cX14_word 13 = .ok (.putfield 38, 3) := by decide +kernel
theorem dr_cX14_word_178 : decode cX14_word 178 = .ok (.new 87, 3) := by decide +kernel
theorem dr_cX14_word_181 : decode cX14_word 181 = .ok (.dup, 1) := by decide +kernel
theorem dr_cX14_word_182 : decode cX14_word 182 = .ok (.invokespecial 89, 3) := by decide +kernel
theorem dr_cX14_word_185 : decode cX14_word 185 = .ok (.astore_n 2, 1) := by decide +kernel
theorem dr_cX14_word_186 : decode cX14_word 186 = .ok (.aload_n 0, 1) := by decide +kernel
theorem dr_cX14_word_187 : decode cX14_word 187 = .ok (.getfield 44, 3) := by decide +kernel
theorem dr_cX14_word_190 : decode cX14_word 190 = .ok (.aload_n 0, 1) := by decide +kernel
theorem dr_cX14_word_191 : decode cX14_word 191 = .ok (.getfield 32, 3) := by decide +kernel
theorem dr_cX14_word_194 : decode cX14_word 194 = .ok (.if_icmp .ge 46, 3) := by decide +kernel
theorem dr_cX14_word_240 : decode cX14_word 240 = .ok (.aload_n 0, 1) := by decide +kernel
theorem dr_cX14_word_241 : decode cX14_word 241 = .ok (.aload_n 2, 1) := by decide +kernel
theorem dr_cX14_word_242 : decode cX14_word 242 = .ok (.invokevirtual 94, 3) := by decide +kernel
theorem dr_cX14_word_245 : decode cX14_word 245 = .ok (.putfield 11, 3) := by decide +kernel
theorem dr_cX14_word_248 : decode cX14_word 248 = .ok (.ldc 98, 2) := by decide +kernel
theorem dr_cX14_word_250 : decode cX14_word 250 = .ok (.new 87, 3) := by decide +kernel
theorem dr_cX14_word_253 : decode cX14_word 253 = .ok (.dup, 1) := by decide +kernel
theorem dr_cX14_word_254 : decode cX14_word 254 = .ok (.invokespecial 89, 3) := by decide +kernel
theorem dr_cX14_word_257 : decode cX14_word 257 = .ok (.ldc 100, 2) := by decide +kernel
theorem dr_cX14_word_259 : decode cX14_word 259 = .ok (.invokevirtual 102, 3) := by decide +kernel
theorem dr_cX14_word_262 : decode cX14_word 262 = .ok (.aload_n 0, 1) := by decide +kernel
theorem dr_cX14_word_263 : decode cX14_word 263 = .ok (.getfield 11, 3) := by decide +kernel
theorem dr_cX14_word_266 : decode cX14_word 266 = .ok (.invokevirtual 102, 3) := by decide +kernel
theorem dr_cX14_word_269 : decode cX14_word 269 = .ok (.ldc 100, 2) := by decide +kernel
theorem dr_cX14_word_271 : decode cX14_word 271 = .ok (.invokevirtual 102, 3) := by decide +kernel
theorem dr_cX14_word_274 : decode cX14_word 274 = .ok (.invokevirtual 94, 3) := by decide +kernel
theorem dr_cX14_word_277 : decode cX14_word 277 = .ok (.invokevirtual 105, 3) := by decide +kernel
theorem dr_cX14_word_280 : decode cX14_word 280 = .ok (.ifCond .lt 8, 3) := by decide +kernel
theorem dr_cX14_word_288 : decode cX14_word 288 = .ok (.return_, 1) := by decide +kernel
theorem dr_cX14_word_283 : decode cX14_word 283 = .ok (.aload_n 0, 1) := by decide +kernel
theorem dr_cX14_word_284 : decode cX14_word 284 = .ok (.iconst 1, 1) := by decide +kernel
theorem dr_cX14_word_285 : decode cX14_word 285 = .ok (.putfield 38, 3) := by decide +kernel
theorem dr_cX14_word_197 : decode cX14_word 197 = .ok (.aload_n 0, 1) := by decide +kernel
theorem dr_cX14_word_198 : decode cX14_word 198 = .ok (.getfield 28, 3) := by decide +kernel
theorem dr_cX14_word_201 : decode cX14_word 201 = .ok (.aload_n 0, 1) := by decide +kernel
theorem dr_cX14_word_202 : decode cX14_word 202 = .ok (.getfield 44, 3) := by decide +kernel
theorem dr_cX14_word_205 : decode cX14_word 205 = .ok (.baload, 1) := by decide +kernel
theorem dr_cX14_word_206 : decode cX14_word 206 = .ok (.invokestatic 54, 3) := by decide +kernel
theorem wr_7_222 : (Jvm.Cond.methodLink "SpillForgeModel$Reader" (54 : Nat) ({ cls := "SpillForgeModel$Reader", name := "isLetter", desc := "(I)Z" } : Jvm.MethodName)) ∈ gw := gw_7 222 rfl rfl
theorem wr_7_224 : (Jvm.Cond.code ({ cls := "SpillForgeModel$Reader", name := "isLetter", desc := "(I)Z" } : Jvm.MethodName) prog_17_method_3_code (1 : Nat) (Option.some Jvm.ClassFile.FieldType.boolean)) ∈ gw := gw_7 224 rfl rfl
theorem wr_7_223 : (Jvm.Cond.static ({ cls := "SpillForgeModel$Reader", name := "isLetter", desc := "(I)Z" } : Jvm.MethodName)) ∈ gw := gw_7 223 rfl rfl
theorem dr_cX14_word_209 : decode cX14_word 209 = .ok (.ifCond .eq 31, 3) := by decide +kernel
theorem dr_cX14_word_212 : decode cX14_word 212 = .ok (.aload_n 2, 1) := by decide +kernel
theorem dr_cX14_word_213 : decode cX14_word 213 = .ok (.aload_n 0, 1) := by decide +kernel
theorem dr_cX14_word_214 : decode cX14_word 214 = .ok (.getfield 28, 3) := by decide +kernel
theorem dr_cX14_word_217 : decode cX14_word 217 = .ok (.aload_n 0, 1) := by decide +kernel
theorem dr_cX14_word_218 : decode cX14_word 218 = .ok (.getfield 44, 3) := by decide +kernel
theorem dr_cX14_word_221 : decode cX14_word 221 = .ok (.baload, 1) := by decide +kernel
theorem dr_cX14_word_222 : decode cX14_word 222 = .ok (.i2c, 1) := by decide +kernel
theorem dr_cX14_word_223 : decode cX14_word 223 = .ok (.invokevirtual 90, 3) := by decide +kernel
theorem dr_cX14_word_226 : decode cX14_word 226 = .ok (.pop, 1) := by decide +kernel
theorem dr_cX14_word_227 : decode cX14_word 227 = .ok (.aload_n 0, 1) := by decide +kernel
theorem dr_cX14_word_228 : decode cX14_word 228 = .ok (.dup, 1) := by decide +kernel
theorem dr_cX14_word_229 : decode cX14_word 229 = .ok (.getfield 44, 3) := by decide +kernel
theorem dr_cX14_word_232 : decode cX14_word 232 = .ok (.iconst 1, 1) := by decide +kernel
theorem dr_cX14_word_233 : decode cX14_word 233 = .ok (.iadd, 1) := by decide +kernel
theorem dr_cX14_word_234 : decode cX14_word 234 = .ok (.putfield 44, 3) := by decide +kernel
theorem dr_cX14_word_237 : decode cX14_word 237 = .ok (.goto (-51), 3) := by decide +kernel
theorem dr_cX14_word_16 : decode cX14_word 16 = .ok (.iload_n 1, 1) := by decide +kernel
theorem dr_cX14_word_17 : decode cX14_word 17 = .ok (.bipush 118, 2) := by decide +kernel
theorem dr_cX14_word_19 : decode cX14_word 19 = .ok (.if_icmp .eq 9, 3) := by decide +kernel
theorem dr_cX14_word_28 : decode cX14_word 28 = .ok (.aload_n 0, 1) := by decide +kernel
theorem dr_cX14_word_29 : decode cX14_word 29 = .ok (.getfield 44, 3) := by decide +kernel
theorem dr_cX14_word_32 : decode cX14_word 32 = .ok (.iconst 1, 1) := by decide +kernel
theorem dr_cX14_word_33 : decode cX14_word 33 = .ok (.iadd, 1) := by decide +kernel
theorem dr_cX14_word_34 : decode cX14_word 34 = .ok (.aload_n 0, 1) := by decide +kernel
theorem dr_cX14_word_35 : decode cX14_word 35 = .ok (.getfield 32, 3) := by decide +kernel
theorem dr_cX14_word_38 : decode cX14_word 38 = .ok (.if_icmp .ge 140, 3) := by decide +kernel
theorem dr_cX14_word_41 : decode cX14_word 41 = .ok (.aload_n 0, 1) := by decide +kernel
theorem dr_cX14_word_42 : decode cX14_word 42 = .ok (.getfield 28, 3) := by decide +kernel
theorem dr_cX14_word_45 : decode cX14_word 45 = .ok (.aload_n 0, 1) := by decide +kernel
theorem dr_cX14_word_46 : decode cX14_word 46 = .ok (.getfield 44, 3) := by decide +kernel
theorem dr_cX14_word_49 : decode cX14_word 49 = .ok (.iconst 1, 1) := by decide +kernel
theorem dr_cX14_word_50 : decode cX14_word 50 = .ok (.iadd, 1) := by decide +kernel
theorem dr_cX14_word_51 : decode cX14_word 51 = .ok (.baload, 1) := by decide +kernel
theorem dr_cX14_word_52 : decode cX14_word 52 = .ok (.invokestatic 50, 3) := by decide +kernel
theorem dr_cX14_word_55 : decode cX14_word 55 = .ok (.ifCond .eq 123, 3) := by decide +kernel
theorem dr_cX14_word_58 : decode cX14_word 58 = .ok (.lconst 0, 1) := by decide +kernel
theorem dr_cX14_word_59 : decode cX14_word 59 = .ok (.lstore_n 2, 1) := by decide +kernel
theorem dr_cX14_word_60 : decode cX14_word 60 = .ok (.aload_n 0, 1) := by decide +kernel
theorem dr_cX14_word_61 : decode cX14_word 61 = .ok (.dup, 1) := by decide +kernel
theorem dr_cX14_word_62 : decode cX14_word 62 = .ok (.getfield 44, 3) := by decide +kernel
theorem dr_cX14_word_65 : decode cX14_word 65 = .ok (.iconst 1, 1) := by decide +kernel
theorem dr_cX14_word_66 : decode cX14_word 66 = .ok (.iadd, 1) := by decide +kernel
theorem dr_cX14_word_67 : decode cX14_word 67 = .ok (.putfield 44, 3) := by decide +kernel
theorem dr_cX14_word_70 : decode cX14_word 70 = .ok (.aload_n 0, 1) := by decide +kernel
theorem dr_cX14_word_71 : decode cX14_word 71 = .ok (.getfield 44, 3) := by decide +kernel
theorem dr_cX14_word_74 : decode cX14_word 74 = .ok (.aload_n 0, 1) := by decide +kernel
theorem dr_cX14_word_75 : decode cX14_word 75 = .ok (.getfield 32, 3) := by decide +kernel
theorem dr_cX14_word_78 : decode cX14_word 78 = .ok (.if_icmp .ge 58, 3) := by decide +kernel
theorem dr_cX14_word_136 : decode cX14_word 136 = .ok (.aload_n 0, 1) := by decide +kernel
theorem dr_cX14_word_137 : decode cX14_word 137 = .ok (.lload_n 2, 1) := by decide +kernel
theorem dr_cX14_word_138 : decode cX14_word 138 = .ok (.l2i, 1) := by decide +kernel
theorem dr_cX14_word_139 : decode cX14_word 139 = .ok (.putfield 80, 3) := by decide +kernel
theorem dr_cX14_word_142 : decode cX14_word 142 = .ok (.lload_n 2, 1) := by decide +kernel
theorem dr_cX14_word_143 : decode cX14_word 143 = .ok (.iload_n 1, 1) := by decide +kernel
theorem dr_cX14_word_144 : decode cX14_word 144 = .ok (.bipush 118, 2) := by decide +kernel
theorem dr_cX14_word_146 : decode cX14_word 146 = .ok (.if_icmp .ne 9, 3) := by decide +kernel
theorem dr_cX14_word_149 : decode cX14_word 149 = .ok (.ldc2_w 83, 3) := by decide +kernel
theorem wr_7_233 : (Jvm.Cond.constantLong "SpillForgeModel$Reader" (83 : Nat) (99 : Int64)) ∈ gw := gw_7 233 rfl rfl
theorem dr_cX14_word_152 : decode cX14_word 152 = .ok (.goto 6, 3) := by decide +kernel
theorem dr_cX14_word_158 : decode cX14_word 158 = .ok (.lcmp, 1) := by decide +kernel
theorem dr_cX14_word_159 : decode cX14_word 159 = .ok (.ifCond .gt 18, 3) := by decide +kernel
theorem dr_cX14_word_177 : decode cX14_word 177 = .ok (.return_, 1) := by decide +kernel
theorem dr_cX14_word_162 : decode cX14_word 162 = .ok (.aload_n 0, 1) := by decide +kernel
theorem dr_cX14_word_163 : decode cX14_word 163 = .ok (.iload_n 1, 1) := by decide +kernel
theorem dr_cX14_word_164 : decode cX14_word 164 = .ok (.bipush 118, 2) := by decide +kernel
theorem dr_cX14_word_166 : decode cX14_word 166 = .ok (.if_icmp .ne 7, 3) := by decide +kernel
theorem dr_cX14_word_169 : decode cX14_word 169 = .ok (.iconst 2, 1) := by decide +kernel
theorem dr_cX14_word_170 : decode cX14_word 170 = .ok (.goto 4, 3) := by decide +kernel
theorem dr_cX14_word_174 : decode cX14_word 174 = .ok (.putfield 38, 3) := by decide +kernel
theorem dr_cX14_word_81 : decode cX14_word 81 = .ok (.aload_n 0, 1) := by decide +kernel
theorem dr_cX14_word_82 : decode cX14_word 82 = .ok (.getfield 28, 3) := by decide +kernel
theorem dr_cX14_word_85 : decode cX14_word 85 = .ok (.aload_n 0, 1) := by decide +kernel
theorem dr_cX14_word_86 : decode cX14_word 86 = .ok (.getfield 44, 3) := by decide +kernel
theorem dr_cX14_word_89 : decode cX14_word 89 = .ok (.baload, 1) := by decide +kernel
theorem dr_cX14_word_90 : decode cX14_word 90 = .ok (.invokestatic 50, 3) := by decide +kernel
theorem dr_cX14_word_93 : decode cX14_word 93 = .ok (.ifCond .eq 43, 3) := by decide +kernel
theorem dr_cX14_word_96 : decode cX14_word 96 = .ok (.lload_n 2, 1) := by decide +kernel
theorem dr_cX14_word_97 : decode cX14_word 97 = .ok (.ldc2_w 68, 3) := by decide +kernel
theorem dr_cX14_word_100 : decode cX14_word 100 = .ok (.lmul, 1) := by decide +kernel
theorem dr_cX14_word_101 : decode cX14_word 101 = .ok (.aload_n 0, 1) := by decide +kernel
theorem dr_cX14_word_102 : decode cX14_word 102 = .ok (.getfield 28, 3) := by decide +kernel
theorem dr_cX14_word_105 : decode cX14_word 105 = .ok (.aload_n 0, 1) := by decide +kernel
theorem dr_cX14_word_106 : decode cX14_word 106 = .ok (.getfield 44, 3) := by decide +kernel
theorem dr_cX14_word_109 : decode cX14_word 109 = .ok (.baload, 1) := by decide +kernel
theorem dr_cX14_word_110 : decode cX14_word 110 = .ok (.i2l, 1) := by decide +kernel
theorem dr_cX14_word_111 : decode cX14_word 111 = .ok (.ladd, 1) := by decide +kernel
theorem dr_cX14_word_112 : decode cX14_word 112 = .ok (.ldc2_w 70, 3) := by decide +kernel
theorem dr_cX14_word_115 : decode cX14_word 115 = .ok (.lsub, 1) := by decide +kernel
theorem dr_cX14_word_116 : decode cX14_word 116 = .ok (.ldc2_w 72, 3) := by decide +kernel
theorem wr_7_231 : (Jvm.Cond.constantLong "SpillForgeModel$Reader" (72 : Nat) (1000000 : Int64)) ∈ gw := gw_7 231 rfl rfl
theorem dr_cX14_word_119 : decode cX14_word 119 = .ok (.invokestatic 74, 3) := by decide +kernel
theorem dr_cX14_word_122 : decode cX14_word 122 = .ok (.lstore_n 2, 1) := by decide +kernel
theorem dr_cX14_word_123 : decode cX14_word 123 = .ok (.aload_n 0, 1) := by decide +kernel
theorem dr_cX14_word_124 : decode cX14_word 124 = .ok (.dup, 1) := by decide +kernel
theorem dr_cX14_word_125 : decode cX14_word 125 = .ok (.getfield 44, 3) := by decide +kernel
theorem dr_cX14_word_128 : decode cX14_word 128 = .ok (.iconst 1, 1) := by decide +kernel
theorem dr_cX14_word_129 : decode cX14_word 129 = .ok (.iadd, 1) := by decide +kernel
theorem dr_cX14_word_130 : decode cX14_word 130 = .ok (.putfield 44, 3) := by decide +kernel
theorem dr_cX14_word_133 : decode cX14_word 133 = .ok (.goto (-63), 3) := by decide +kernel
theorem dr_cX14_word_22 : decode cX14_word 22 = .ok (.iload_n 1, 1) := by decide +kernel
theorem dr_cX14_word_23 : decode cX14_word 23 = .ok (.bipush 98, 2) := by decide +kernel
theorem dr_cX14_word_25 : decode cX14_word 25 = .ok (.if_icmp .ne 153, 3) := by decide +kernel
theorem dr_cX14_word_155 : decode cX14_word 155 = .ok (.ldc2_w 85, 3) := by decide +kernel
theorem wr_7_234 : (Jvm.Cond.constantLong "SpillForgeModel$Reader" (85 : Nat) (39 : Int64)) ∈ gw := gw_7 234 rfl rfl
theorem dr_cX14_word_173 : decode cX14_word 173 = .ok (.iconst 3, 1) := by decide +kernel
abbrev ky_651516_Reader_isLetter : gKey := (cX14_isLetter, 1, "SpillForgeModel$Reader", (some FieldType.boolean), [], "isLetter", fun _ _ => True)
def pp_651516_Reader_isLetter (D : va_G) (I : FieldType → ClassId) (P651513 : List Nat) (F651514 : Nat → va_E) (p651515 : Int32) : Option Value → va_W → Nat → Nat → Prop := fun r w dc ds => ∃ (o651523 : Int32), r = some (.int o651523) ∧ w = va_pl P651513 F651514 ∧ dc ≤ 0 ∧ ds ≤ 0 ∧ gB o651523 0 1 ∧ isP p651515 97 122 o651523
set_option maxRecDepth 100000 in
set_option maxHeartbeats 4000000 in
theorem cp_651516_Reader_isLetter (l : Launch) (hl0 : l.stackTraces = false) (D : va_G) (I : FieldType → ClassId) (P651513 : List Nat) (F651514 : Nat → va_E) (p651515 : Int32)  : CtA (gV D I) l yX14_isLetter cX14_isLetter 1 (some FieldType.boolean) 0 0 0 0 [.int p651515] (va_pl P651513 F651514) (pp_651516_Reader_isLetter D I P651513 F651514 p651515) gNA := by
  refine CtA_of hl0 (by decide) (Nat.le_of_ble_eq_true rfl) ?_
  have bp651515 := gB_any p651515
  refine G_iload_n 0 dr_cX14_isLetter_0 rfl ?_
  refine G_bipush 97 dr_cX14_isLetter_1 (by decide +kernel) ?_
  refine G_icmp_lt 16 dr_cX14_isLetter_3 (by decide +kernel) (fun hc651517 => ?_) (fun hc651517 => ?_)
  · have r651518 : p651515.toInt < 97 := gj_lt hc651517 (show Int32.toInt 97 = 97 by decide)
    have bp651515' : gB p651515 (-2147483648) 96 := ⟨by omega, by omega⟩
    refine G_iconst 0 dr_cX14_isLetter_16 (by decide +kernel) ?_
    exact G_zretA FieldType.boolean dr_cX14_isLetter_17 rfl rfl (Nat.le_of_ble_eq_true rfl) (Nat.le_of_ble_eq_true rfl) ⟨0, rfl, rfl, (Nat.le_of_ble_eq_true rfl), (Nat.le_of_ble_eq_true rfl), (gB_w (gBl (show Int32.toInt 0 = 0 by decide)) (by decide) (by decide)), (isP_n (by omega))⟩
  · have r651519 : 97 ≤ p651515.toInt := gj_nlt hc651517 (show Int32.toInt 97 = 97 by decide)
    have bp651515' : gB p651515 97 2147483647 := ⟨by omega, by omega⟩
    refine G_iload_n 0 dr_cX14_isLetter_6 rfl ?_
    refine G_bipush 122 dr_cX14_isLetter_7 (by decide +kernel) ?_
    refine G_icmp_gt 16 dr_cX14_isLetter_9 (by decide +kernel) (fun hc651520 => ?_) (fun hc651520 => ?_)
    · have r651521 : 122 < p651515.toInt := gj_ltL hc651520 (show Int32.toInt 122 = 122 by decide)
      have bp651515'' : gB p651515 123 2147483647 := ⟨by omega, by omega⟩
      refine G_iconst 0 dr_cX14_isLetter_16 (by decide +kernel) ?_
      exact G_zretA FieldType.boolean dr_cX14_isLetter_17 rfl rfl (Nat.le_of_ble_eq_true rfl) (Nat.le_of_ble_eq_true rfl) ⟨0, rfl, rfl, (Nat.le_of_ble_eq_true rfl), (Nat.le_of_ble_eq_true rfl), (gB_w (gBl (show Int32.toInt 0 = 0 by decide)) (by decide) (by decide)), (isP_n (by omega))⟩
    · have r651522 : p651515.toInt ≤ 122 := gj_nltL hc651520 (show Int32.toInt 122 = 122 by decide)
      have bp651515'' : gB p651515 97 122 := ⟨by omega, by omega⟩
      refine G_iconst 1 dr_cX14_isLetter_12 (by decide +kernel) ?_
      refine G_goto 17 dr_cX14_isLetter_13 (by decide +kernel) ?_
      exact G_zretA FieldType.boolean dr_cX14_isLetter_17 rfl rfl (Nat.le_of_ble_eq_true rfl) (Nat.le_of_ble_eq_true rfl) ⟨1, rfl, rfl, (Nat.le_of_ble_eq_true rfl), (Nat.le_of_ble_eq_true rfl), (gB_w (gBl (show Int32.toInt 1 = 1 by decide)) (by decide) (by decide)), (isP_y (by omega) (by omega))⟩
abbrev ky_651845_AbstractStringBuilder_append : gKey := (cJ5_append_3fe6f, 2, "java/lang/AbstractStringBuilder", (some (FieldType.object "java/lang/AbstractStringBuilder")), [], "append", fun _ _ => True)
def pp_651845_AbstractStringBuilder_append (D : va_G) (I : FieldType → ClassId) (P651832 : List Nat) (F651833 : Nat → va_E) (q651834 : Nat) (q651835 : Nat) (p651836 : Int32) (p651837 : Int32) (p651838 : Int32) (f651839 : Nat → Int32) (n651840 : Nat) : Option Value → va_W → Nat → Nat → Prop := fun r w dc ds => ∃ (P651907 : List Nat) (F651908 : Nat → va_E) (o651903 : Int32) (q651904 : Nat) (n651905 : Nat) (f651906 : Nat → Int32), r = some (.ref q651834) ∧ w = va_pl P651907 F651908 ∧ rSub P651832 P651907 ∧ rFr [q651835, q651834] P651832 F651833 F651908 ∧ F651908 q651834 = .inr (1, [.ref q651904, .int 0, .int p651837, .int o651903]) ∧ F651908 q651904 = .inl (I .byte, n651905, .inl f651906) ∧ q651904 ∈ P651907 ∧ (q651904 = q651835 ∨ q651904 ∉ P651832) ∧ dc ≤ 1 ∧ ds ≤ 2 * (n651905 - n651840) ∧ gB o651903 1 16777216 ∧ gF f651906 (-128) 127 ∧ o651903.toInt = p651838.toInt + 1 ∧ o651903.toInt ≤ (n651905 : Int) ∧ (n651840 : Int) ≤ (n651905 : Int) ∧ (n651905 : Int) ≤ 2 * o651903.toInt + 16 ∧ (n651905 : Int) ≤ 2 * (n651840 : Int) + 2
set_option maxRecDepth 100000 in
set_option maxHeartbeats 4000000 in
theorem cp_651845_AbstractStringBuilder_append (l : Launch) (hl0 : l.stackTraces = false) (D : va_G) (I : FieldType → ClassId) (P651832 : List Nat) (F651833 : Nat → va_E) (q651834 : Nat) (q651835 : Nat) (p651836 : Int32) (p651837 : Int32) (p651838 : Int32) (f651839 : Nat → Int32) (n651840 : Nat) (hmq651834 : q651834 ∈ P651832) (hmq651835 : q651835 ∈ P651832) (heq651834 : F651833 q651834 = .inr (1, [.ref q651835, .int 0, .int p651837, .int p651838])) (heq651835 : F651833 q651835 = .inl (I .byte, n651840, .inl f651839)) (bp651836 : gB p651836 0 255) (bp651837 : gB p651837 0 1) (bp651838 : gB p651838 0 16777216) (bf651839 : gF f651839 (-128) 127) (x651841 : (n651840 : Int) ≤ 8388608 - 100000) (x651842 : p651838.toInt ≤ (n651840 : Int)) (x651843 : (n651840 : Int) ≤ 2 * p651838.toInt + 16) (x651844 : ((n651840 : Int) ≤ 16777216)) : CtA (gV D I) l yJ5_append_3fe6f cJ5_append_3fe6f 2 (some (FieldType.object "java/lang/AbstractStringBuilder")) 4 84 1 (4 * n651840 + 8) [.ref q651834, .int p651836] (va_pl P651832 F651833) (pp_651845_AbstractStringBuilder_append D I P651832 F651833 q651834 q651835 p651836 p651837 p651838 f651839 n651840) gNA := by
  refine CtA_ofF hl0 (by decide +kernel) (Nat.le_of_ble_eq_true rfl) ?_
  refine G_aload_n 0 dr_cJ5_append_3fe6f_0 rfl ?_
  refine G_aload_n 0 dr_cJ5_append_3fe6f_1 rfl ?_
  refine Gp_get 3 hmq651834 heq651834 dr_cJ5_append_3fe6f_2 (gk_J4 D I) (Nat.le_of_ble_eq_true rfl) wr_7_64 rfl ?_
  refine G_iconst 1 dr_cJ5_append_3fe6f_5 (by decide +kernel) ?_
  refine G_iadd dr_cJ5_append_3fe6f_6 (G_nam fun z651846 hz651846 => ?_)
  have ez651846 : z651846.toInt = p651838.toInt + 1 := by rw [gI_add hz651846 bp651838 (gBl (show Int32.toInt 1 = 1 by decide)) (by decide) (by decide), show Int32.toInt 1 = 1 from by decide]
  have bz651846 : gB z651846 1 16777217 := gB_add (gI_add hz651846 bp651838 (gBl (show Int32.toInt 1 = 1 by decide)) (by decide) (by decide)) bp651838 (gBl (show Int32.toInt 1 = 1 by decide)) (by decide) (by decide)
  refine Gw_callVB (As := [.int z651846]) (gV_ok D I) (cp_640241_AbstractStringBuilder_ensureCapacityInternal l hl0 D I P651832 F651833 q651834 q651835 z651846 p651837 p651838 f651839 n651840 hmq651834 hmq651835 heq651834 heq651835 ⟨by omega, by omega⟩ bp651837 bp651838 bf651839 (by have qa0 : Int32.toInt 0 = 0 := (by decide); omega) (by have qa0 : Int32.toInt 0 = 0 := (by decide); omega)) dr_cJ5_append_3fe6f_7 ⟨wr_8_4, wr_1_19, wr_8_7, by decide, rfl, (Nat.le_of_ble_eq_true rfl), (Nat.le_of_ble_eq_true rfl)⟩ wr_8_6 wr_s_0 hmq651834 heq651834 rfl (show 0 + 1 ≤ 1 by first | omega | decide) (show 0 + (2 * n651840 + 2 + z651846.toInt.toNat) ≤ (4 * n651840 + 8) by first | omega | decide) (Nat.le_of_ble_eq_true rfl) (fun r651850 w651851 dc651847 ds651848 hp651849 => ?_) (fun _ _ _ _ _ z => z.elim)
  obtain ⟨P651859, F651860, q651852, n651853, f651854, rfl, rfl, hsb651861, hfr651862, he651863, he651864, hm651865, hq651866, hdc, hds, bf651854, x651855, x651856, x651857, x651858⟩ := hp651849
  have hm651867 : q651834 ∈ P651859 := hsb651861 q651834 hmq651834
  have hm651868 : q651835 ∈ P651859 := hsb651861 q651835 hmq651835
  have hor651869 : q651852 = q651835 ∨ q651852 ∉ P651832 := hq651866.elim Or.inl (fun n => Or.inr (fun z => n ((rSub_rf (P := P651832)) _ z)))
  have hsb651870 : rSub P651832 P651859 := rSub_tr (rSub_rf (P := P651832)) hsb651861
  have he651871 : F651860 q651835 = .inl (I .byte, n651840, .inl f651839) := (hfr651862 q651835 hmq651835 (nm_c (rn_ao heq651835 heq651834) nm_n)).trans heq651835
  have hfr651872 : rFr [q651834] P651832 F651833 F651860 := rFr_call (rSub_rf (P := P651832)) (rFr_rf (W := []) (P := P651832) (F := F651833)) hfr651862 (fun b hb hn => ⟨nm_n, (nm_c (fun e => hn (e ▸ List.mem_cons_self)) nm_n)⟩)
  change G _ _ _ _ _ _ _ _ _ _ _
  refine G_widen (cs' := 1) (sl' := 2 * (n651853 - n651840)) (by omega) (by omega) ?_
  refine G_aload_n 0 dr_cJ5_append_3fe6f_10 rfl ?_
  refine Gw_callVB (As := []) (gV_ok D I) (cp_640145_AbstractStringBuilder_isLatin1 l hl0 D I P651859 F651860 q651834 q651852 p651837 p651838 f651854 n651853 hm651867 hm651865 he651863 he651864 bp651837 bp651838 bf651854 (by have qa0 : Int32.toInt 0 = 0 := (by decide); omega)) dr_cJ5_append_3fe6f_11 ⟨wr_8_33, wr_1_19, wr_8_37, by decide, rfl, (Nat.le_of_ble_eq_true rfl), (Nat.le_of_ble_eq_true rfl)⟩ wr_8_34 wr_8_36 hm651867 he651863 rfl (show 1 + 0 ≤ 1 by first | omega | decide) (show 2 * (n651853 - n651840) + 0 ≤ (4 * n651840 + 8) by first | omega | decide) (Nat.le_of_ble_eq_true rfl) (fun r651876 w651877 dc651873 ds651874 hp651875 => ?_) (fun _ _ _ _ _ z => z.elim)
  obtain ⟨rfl, rfl, hdc, hds⟩ := hp651875
  change G _ _ _ _ _ _ _ (.int 1 :: _) _ _ _
  refine G_widen (cs' := 1) (sl' := 2 * (n651853 - n651840) + 0) (by omega) (by omega) ?_
  refine G_if_eq 45 dr_cJ5_append_3fe6f_14 (by decide +kernel) (fun hc => absurd hc (by decide)) (fun _ => ?_)
  refine G_iload_n 1 dr_cJ5_append_3fe6f_17 rfl ?_
  refine Gw_callS (As := [.int p651836]) (gV_ok D I) (cp_640154_StringLatin1_canEncode l hl0 D I P651859 F651860 p651836 (gB_w bp651836 (by decide) (by decide))) dr_cJ5_append_3fe6f_18 ⟨wr_8_38, wr_1_28, wr_8_40, by decide, rfl, (Nat.le_of_ble_eq_true rfl), (Nat.le_of_ble_eq_true rfl)⟩ wr_8_39 (show 1 + 0 ≤ 1 by first | omega | decide) (show 2 * (n651853 - n651840) + 0 + 0 ≤ (4 * n651840 + 8) by first | omega | decide) (Nat.le_of_ble_eq_true rfl) (fun r651881 w651882 dc651878 ds651879 hp651880 => ?_) (fun _ _ _ _ _ z => z.elim)
  rcases hp651880 with ⟨rfl, rfl, hdc, hds, r651883⟩ | ⟨rfl, rfl, hdc, hds, r651884⟩
  · exact absurd (show False by omega) not_false
  · change G _ _ _ _ _ _ _ (.int 1 :: _) _ _ _
    refine G_widen (cs' := 1) (sl' := 2 * (n651853 - n651840) + 0 + 0) (by omega) (by omega) ?_
    refine G_if_eq 45 dr_cJ5_append_3fe6f_21 (by decide +kernel) (fun hc => absurd hc (by decide)) (fun _ => ?_)
    refine G_aload_n 0 dr_cJ5_append_3fe6f_24 rfl ?_
    refine Gp_get 0 hm651867 he651863 dr_cJ5_append_3fe6f_25 (gk_J4 D I) (Nat.le_of_ble_eq_true rfl) wr_7_60 rfl ?_
    refine G_aload_n 0 dr_cJ5_append_3fe6f_28 rfl ?_
    refine G_dup dr_cJ5_append_3fe6f_29 rfl ?_
    refine Gp_get 3 hm651867 he651863 dr_cJ5_append_3fe6f_30 (gk_J4 D I) (Nat.le_of_ble_eq_true rfl) wr_7_64 rfl ?_
    refine G_dup_x1 dr_cJ5_append_3fe6f_33 rfl rfl ?_
    refine G_iconst 1 dr_cJ5_append_3fe6f_34 (by decide +kernel) ?_
    refine G_iadd dr_cJ5_append_3fe6f_35 (G_nam fun z651886 hz651886 => ?_)
    have ez651886 : z651886.toInt = p651838.toInt + 1 := by rw [gI_add hz651886 bp651838 (gBl (show Int32.toInt 1 = 1 by decide)) (by decide) (by decide), show Int32.toInt 1 = 1 from by decide]
    have bz651886 : gB z651886 1 16777217 := gB_add (gI_add hz651886 bp651838 (gBl (show Int32.toInt 1 = 1 by decide)) (by decide) (by decide)) bp651838 (gBl (show Int32.toInt 1 = 1 by decide)) (by decide) (by decide)
    refine Gp_put 3 hm651867 he651863 dr_cJ5_append_3fe6f_36 (gk_J4 D I) (Nat.le_of_ble_eq_true rfl) wr_7_64 rfl rfl rfl (Nat.le_of_ble_eq_true rfl) (fun F651887 e651888 n651889 => ?_)
    have he651890 : F651887 q651835 = .inl (I .byte, n651840, .inl f651839) := (n651889 q651835 (rn_ao he651871 he651863)).trans he651871
    have he651891 : F651887 q651852 = .inl (I .byte, n651853, .inl f651854) := (n651889 q651852 (rn_ao he651864 he651863)).trans he651864
    have he651892 : F651887 q651834 = .inr (1, [.ref q651852, .int 0, .int p651837, .int z651886]) := e651888
    have hfr651893 : rFr [q651834] P651832 F651833 F651887 := rFr_put' List.mem_cons_self hfr651872 n651889
    refine G_iload_n 1 dr_cJ5_append_3fe6f_39 rfl ?_
    refine G_i2b dr_cJ5_append_3fe6f_40 (G_nam fun z651894 hz651894 => ?_)
    have bz651894 : gB z651894 (-128) 127 := gB_i2b hz651894
    refine Gp_bast 1 hm651865 he651891 dr_cJ5_append_3fe6f_41 rfl (gB_inr (by omega) (by omega)) (fun F651895 e651896 n651897 => ?_)
    obtain ⟨f651898, hf651898⟩ : ∃ z, z = upd f651854 p651838.toNatClampNeg (vp_nar .byte z651894) := ⟨_, rfl⟩
    rw [← hf651898] at e651896
    have he651900 : F651895 q651834 = .inr (1, [.ref q651852, .int 0, .int p651837, .int z651886]) := (n651897 q651834 (rn_oa he651892 he651891)).trans he651892
    have he651901 : F651895 q651852 = .inl (I .byte, n651853, .inl f651898) := e651896
    have hfr651902 : rFr [q651835, q651834] P651832 F651833 F651895 := rFr_eit hor651869 hfr651893 n651897
    have bf651898 : gF f651898 (-128) 127 := gF_upd hf651898 bf651854 gB_byte
    refine G_goto 75 dr_cJ5_append_3fe6f_42 (by decide +kernel) ?_
    refine G_aload_n 0 dr_cJ5_append_3fe6f_75 rfl ?_
    exact G_aretA (FieldType.object "java/lang/AbstractStringBuilder") dr_cJ5_append_3fe6f_76 rfl (by first | exact Or.inl ⟨_, rfl⟩ | exact Or.inr ⟨_, rfl⟩) (Or.inr ⟨_, rfl⟩) (Nat.le_of_ble_eq_true rfl) (show 2 * (n651853 - n651840) + 0 + 0 ≤ (4 * n651840 + 8) by omega) ⟨P651859, F651895, z651886, q651852, n651853, f651898, rfl, rfl, hsb651870, hfr651902, he651900, he651901, hm651865, hor651869, (Nat.le_of_ble_eq_true rfl), (by omega), ⟨by omega, by omega⟩, bf651898, (by have qa0 : Int32.toInt 0 = 0 := (by decide); omega), (by have qa0 : Int32.toInt 0 = 0 := (by decide); omega), (by have qa0 : Int32.toInt 0 = 0 := (by decide); omega), (by have qa0 : Int32.toInt 0 = 0 := (by decide); omega), (by have qa0 : Int32.toInt 0 = 0 := (by decide); omega)⟩
abbrev ky_651831_StringBuilder_append : gKey := (cJ4_append_cf468, 2, "java/lang/StringBuilder", (some (FieldType.object "java/lang/StringBuilder")), [], "append", fun _ _ => True)
def pp_651831_StringBuilder_append (D : va_G) (I : FieldType → ClassId) (P651818 : List Nat) (F651819 : Nat → va_E) (q651820 : Nat) (q651821 : Nat) (p651822 : Int32) (p651823 : Int32) (p651824 : Int32) (f651825 : Nat → Int32) (n651826 : Nat) : Option Value → va_W → Nat → Nat → Prop := fun r w dc ds => ∃ (P651940 : List Nat) (F651941 : Nat → va_E) (o651936 : Int32) (q651937 : Nat) (n651938 : Nat) (f651939 : Nat → Int32), r = some (.ref q651820) ∧ w = va_pl P651940 F651941 ∧ rSub P651818 P651940 ∧ rFr [q651821, q651820] P651818 F651819 F651941 ∧ F651941 q651820 = .inr (1, [.ref q651937, .int 0, .int p651823, .int o651936]) ∧ F651941 q651937 = .inl (I .byte, n651938, .inl f651939) ∧ q651937 ∈ P651940 ∧ (q651937 = q651821 ∨ q651937 ∉ P651818) ∧ dc ≤ 1 ∧ ds ≤ 2 * (n651938 - n651826) ∧ gB o651936 1 16777216 ∧ gF f651939 (-128) 127 ∧ o651936.toInt = p651824.toInt + 1 ∧ o651936.toInt ≤ (n651938 : Int) ∧ (n651826 : Int) ≤ (n651938 : Int) ∧ (n651938 : Int) ≤ 2 * o651936.toInt + 16 ∧ (n651938 : Int) ≤ 2 * (n651826 : Int) + 2
set_option maxRecDepth 100000 in
set_option maxHeartbeats 4000000 in
theorem cp_651831_StringBuilder_append (l : Launch) (hl0 : l.stackTraces = false) (D : va_G) (I : FieldType → ClassId) (P651818 : List Nat) (F651819 : Nat → va_E) (q651820 : Nat) (q651821 : Nat) (p651822 : Int32) (p651823 : Int32) (p651824 : Int32) (f651825 : Nat → Int32) (n651826 : Nat) (hmq651820 : q651820 ∈ P651818) (hmq651821 : q651821 ∈ P651818) (heq651820 : F651819 q651820 = .inr (1, [.ref q651821, .int 0, .int p651823, .int p651824])) (heq651821 : F651819 q651821 = .inl (I .byte, n651826, .inl f651825)) (bp651822 : gB p651822 0 255) (bp651823 : gB p651823 0 1) (bp651824 : gB p651824 0 16777216) (bf651825 : gF f651825 (-128) 127) (x651827 : (n651826 : Int) ≤ 8388608 - 100000) (x651828 : p651824.toInt ≤ (n651826 : Int)) (x651829 : (n651826 : Int) ≤ 2 * p651824.toInt + 16) (x651830 : ((n651826 : Int) ≤ 16777216)) : CtA (gV D I) l yJ4_append_cf468 cJ4_append_cf468 2 (some (FieldType.object "java/lang/StringBuilder")) 5 105 1 (4 * n651826 + 8) [.ref q651820, .int p651822] (va_pl P651818 F651819) (pp_651831_StringBuilder_append D I P651818 F651819 q651820 q651821 p651822 p651823 p651824 f651825 n651826) gNA := by
  refine CtA_ofF hl0 (by decide +kernel) (Nat.le_of_ble_eq_true rfl) ?_
  refine G_aload_n 0 dr_cJ4_append_cf468_0 rfl ?_
  refine G_iload_n 1 dr_cJ4_append_cf468_1 rfl ?_
  refine Gw_callSU (As := [.int p651822]) (gV_ok D I) (cp_651845_AbstractStringBuilder_append l hl0 D I P651818 F651819 q651820 q651821 p651822 p651823 p651824 f651825 n651826 hmq651820 hmq651821 heq651820 heq651821 bp651822 bp651823 bp651824 bf651825 (by have qa0 : Int32.toInt 0 = 0 := (by decide); omega) (by have qa0 : Int32.toInt 0 = 0 := (by decide); omega) (by have qa0 : Int32.toInt 0 = 0 := (by decide); omega) (by have qa0 : Int32.toInt 0 = 0 := (by decide); omega)) dr_cJ4_append_cf468_2 ⟨wr_8_1, wr_1_19, wr_8_3, by decide, rfl, (Nat.le_of_ble_eq_true rfl), (Nat.le_of_ble_eq_true rfl)⟩ wr_8_2 wr_11_224 wr_7_73 wr_7_44 (by decide) hmq651820 heq651820 rfl (show 0 + 1 ≤ 1 by first | omega | decide) (show 0 + (4 * n651826 + 8) ≤ (4 * n651826 + 8) by first | omega | decide) (Nat.le_of_ble_eq_true rfl) (fun r651912 w651913 dc651909 ds651910 hp651911 => ?_)
  obtain ⟨P651923, F651924, o651914, q651915, n651916, f651917, rfl, rfl, hsb651925, hfr651926, he651927, he651928, hm651929, hq651930, hdc, hds, bo651914, bf651917, x651918, x651919, x651920, x651921, x651922⟩ := hp651911
  have hm651931 : q651820 ∈ P651923 := hsb651925 q651820 hmq651820
  have hm651932 : q651821 ∈ P651923 := hsb651925 q651821 hmq651821
  have hor651933 : q651915 = q651821 ∨ q651915 ∉ P651818 := hq651930.elim Or.inl (fun n => Or.inr (fun z => n ((rSub_rf (P := P651818)) _ z)))
  have hsb651934 : rSub P651818 P651923 := rSub_tr (rSub_rf (P := P651818)) hsb651925
  have hfr651935 : rFr [q651821, q651820] P651818 F651819 F651924 := rFr_call (rSub_rf (P := P651818)) (rFr_rf (W := []) (P := P651818) (F := F651819)) hfr651926 (fun b hb hn => ⟨nm_n, (nm_c (fun e => hn (e ▸ List.mem_cons_self)) (nm_c (fun e => hn (e ▸ (List.mem_cons_of_mem _ List.mem_cons_self))) nm_n))⟩)
  change G _ _ _ _ _ _ _ (.ref q651820 :: _) _ _ _
  refine G_widen (cs' := 1) (sl' := 2 * (n651916 - n651826)) (by omega) (by omega) ?_
  refine G_pop dr_cJ4_append_cf468_5 rfl ?_
  refine G_aload_n 0 dr_cJ4_append_cf468_6 rfl ?_
  exact G_aretA (FieldType.object "java/lang/StringBuilder") dr_cJ4_append_cf468_7 rfl (by first | exact Or.inl ⟨_, rfl⟩ | exact Or.inr ⟨_, rfl⟩) (Or.inr ⟨_, rfl⟩) (Nat.le_of_ble_eq_true rfl) (show 2 * (n651916 - n651826) ≤ (4 * n651826 + 8) by omega) ⟨P651923, F651924, o651914, q651915, n651916, f651917, rfl, rfl, hsb651934, hfr651935, he651927, he651928, hm651929, hor651933, (Nat.le_of_ble_eq_true rfl), (by omega), bo651914, bf651917, (by have qa0 : Int32.toInt 0 = 0 := (by decide); omega), (by have qa0 : Int32.toInt 0 = 0 := (by decide); omega), (by have qa0 : Int32.toInt 0 = 0 := (by decide); omega), (by have qa0 : Int32.toInt 0 = 0 := (by decide); omega), (by have qa0 : Int32.toInt 0 = 0 := (by decide); omega)⟩
abbrev ky_651181_Reader_word : gKey := (cX14_word, 4, "SpillForgeModel$Reader", none, [], "word", fun _ _ => True)
def pp_651181_Reader_word (D : va_G) (I : FieldType → ClassId) (P651158 : List Nat) (F651159 : Nat → va_E) (q651160 : Nat) (q651161 : Nat) (p651162 : Int32) (p651163 : Int32) (p651164 : Int32) (p651165 : Int32) (p651166 : Int32) (p651167 : Int32) (qo651168 : Nat) (p651169 : Int32) (p651170 : Int32) (p651171 : Int32) (qo651172 : Nat) (qo651173 : Nat) (p651174 : Int32) (f651175 : Nat → Int32) : Option Value → va_W → Nat → Nat → Prop := fun r w dc ds => ∃ (P653727 : List Nat) (F653728 : Nat → va_E) (o653723 : Int32) (o653724 : Int32) (o653725 : Int32) (q653726 : Nat), r = none ∧ w = va_pl P653727 F653728 ∧ rSub P651158 P653727 ∧ rFr [q651160] P651158 F651159 F653728 ∧ F653728 q651160 = .inr (19, [.ref q651161, .int p651162, .int o653723, .int o653724, .int p651165, .int o653725, .int p651167, .ref q653726, .int p651169, .int p651170, .int p651171, .ref qo651172, .ref qo651173, .int p651174]) ∧ F653728 q651161 = .inl (I .byte, 8192, .inl f651175) ∧ dc ≤ (16 * (o653723.toInt - p651163.toInt)).toNat ∧ ds ≤ (256 * (o653723.toInt - p651163.toInt)).toNat ∧ gB o653723 0 8192 ∧ gB o653724 1 6 ∧ p651163.toInt < o653723.toInt ∧ o653723.toInt ≤ p651162.toInt ∧ tP I P653727 F653728 o653724 q653726 qo651173 qo651172 ∧ vP o653724 o653725
set_option maxRecDepth 100000 in
set_option maxHeartbeats 4000000 in
theorem cp_651181_Reader_word (l : Launch) (hl0 : l.stackTraces = false) (D : va_G) (I : FieldType → ClassId) (P651158 : List Nat) (F651159 : Nat → va_E) (q651160 : Nat) (q651161 : Nat) (p651162 : Int32) (p651163 : Int32) (p651164 : Int32) (p651165 : Int32) (p651166 : Int32) (p651167 : Int32) (qo651168 : Nat) (p651169 : Int32) (p651170 : Int32) (p651171 : Int32) (qo651172 : Nat) (qo651173 : Nat) (p651174 : Int32) (f651175 : Nat → Int32) (hmq651160 : q651160 ∈ P651158) (hmq651161 : q651161 ∈ P651158) (heq651160 : F651159 q651160 = .inr (19, [.ref q651161, .int p651162, .int p651163, .int p651164, .int p651165, .int p651166, .int p651167, .ref qo651168, .int p651169, .int p651170, .int p651171, .ref qo651172, .ref qo651173, .int p651174])) (heq651161 : F651159 q651161 = .inl (I .byte, 8192, .inl f651175)) (bp651162 : gB p651162 0 8192) (bp651163 : gB p651163 0 8192) (bp651164 : gB p651164 0 6) (bp651165 : gB p651165 0 8192) (bp651167 : gB p651167 0 6) (bp651169 : gB p651169 (-1) 8192) (bp651170 : gB p651170 0 4) (bp651171 : gB p651171 0 1000000) (bp651174 : gB p651174 0 1000000) (bf651175 : gF f651175 (-128) 127) (x651176 : p651163.toInt ≤ p651162.toInt) (x651177 : p651163.toInt < p651162.toInt) (x651178 : cLt f651175 p651163) (x651179 : qo651173 ∈ P651158) (x651180 : qo651172 ∈ P651158) : CtA (gV D I) l yX14_word cX14_word 4 none 6 132 ((16 * (p651162.toInt - p651163.toInt)).toNat) ((256 * (p651162.toInt - p651163.toInt)).toNat) [.ref q651160] (va_pl P651158 F651159) (pp_651181_Reader_word D I P651158 F651159 q651160 q651161 p651162 p651163 p651164 p651165 p651166 p651167 qo651168 p651169 p651170 p651171 qo651172 qo651173 p651174 f651175) gNA := by
  refine CtA_of hl0 (by decide) (Nat.le_of_ble_eq_true rfl) ?_
  have bp651166 := gB_any p651166
  refine G_aload_n 0 dr_cX14_word_0 rfl ?_
  refine Gp_get 0 hmq651160 heq651160 dr_cX14_word_1 (gk_X14 D I) (Nat.le_of_ble_eq_true rfl) wr_9_36 rfl ?_
  refine G_aload_n 0 dr_cX14_word_4 rfl ?_
  refine Gp_get 2 hmq651160 heq651160 dr_cX14_word_5 (gk_X14 D I) (Nat.le_of_ble_eq_true rfl) wr_9_38 rfl ?_
  refine Gp_bald 1 hmq651161 heq651161 dr_cX14_word_8 rfl (gB_inr (by omega) (by omega)) (G_nam fun z651182 hz651182 => ?_)
  have bz651182 : gB z651182 (-128) 127 := by rw [hz651182]; exact bf651175 _
  refine G_istore_n (L' := [(1, .int z651182), (0, .ref q651160)]) dr_cX14_word_9 (Nat.le_of_ble_eq_true rfl) rfl ?_
  refine G_aload_n 1 dr_cX14_word_10 rfl ?_
  refine G_bipush 6 dr_cX14_word_11 (by decide +kernel) ?_
  refine Gp_put 3 hmq651160 heq651160 dr_cX14_word_13 (gk_X14 D I) (Nat.le_of_ble_eq_true rfl) wr_9_39 rfl rfl rfl (Nat.le_of_ble_eq_true rfl) (fun F651183 e651184 n651185 => ?_)
  have he651186 : F651183 q651161 = .inl (I .byte, 8192, .inl f651175) := (n651185 q651161 (rn_ao heq651161 heq651160)).trans heq651161
  have he651187 : F651183 q651160 = .inr (19, [.ref q651161, .int p651162, .int p651163, .int 6, .int p651165, .int p651166, .int p651167, .ref qo651168, .int p651169, .int p651170, .int p651171, .ref qo651172, .ref qo651173, .int p651174]) := e651184
  have hfr651188 : rFr [q651160] P651158 F651159 F651183 := rFr_put (rFr_rf (W := []) (P := P651158) (F := F651159)) n651185
  have jn651189 : G (gV D I) l (gRm 6 132 ((16 * (p651162.toInt - p651163.toInt)).toNat) ((256 * (p651162.toInt - p651163.toInt)).toNat)) (gMA (gV D I) (pp_651181_Reader_word D I P651158 F651159 q651160 q651161 p651162 p651163 p651164 p651165 p651166 p651167 qo651168 p651169 p651170 p651171 qo651172 qo651173 p651174 f651175) gNA ((16 * (p651162.toInt - p651163.toInt)).toNat) ((256 * (p651162.toInt - p651163.toInt)).toNat)) ky_651181_Reader_word 178 [(1, .int z651182), (0, .ref q651160)] [] (va_pl P651158 F651183) 0 0 := by
    refine G_new [.null, .int 0, .int 0, .int 0] dr_cX14_word_178 (gk_J4 D I) wr_7_235 wr_7_44 wr_1_20 (gfs_J4) (show 0 + 1 ≤ ((16 * (p651162.toInt - p651163.toInt)).toNat) by first | omega | decide) (show 0 + 4 ≤ ((256 * (p651162.toInt - p651163.toInt)).toNat) by first | omega | decide) (fun q651190 => Gp_in (fun P651191 F651192 hq651193 hP651194 e651195 n651196 => ?_))
    refine G_widen (cs' := 1) (sl' := 4) (by omega) (by omega) ?_
    have he651197 : F651192 q651160 = .inr (19, [.ref q651161, .int p651162, .int p651163, .int 6, .int p651165, .int p651166, .int p651167, .ref qo651168, .int p651169, .int p651170, .int p651171, .ref qo651172, .ref qo651173, .int p651174]) := (n651196 q651160 (fun h => hq651193 (h ▸ hmq651160))).trans he651187
    have he651198 : F651192 q651161 = .inl (I .byte, 8192, .inl f651175) := (n651196 q651161 (fun h => hq651193 (h ▸ hmq651161))).trans he651186
    have he651199 : F651192 q651190 = .inr (1, [.null, .int 0, .int 0, .int 0]) := e651195
    have hm651200 : q651160 ∈ P651191 := (hP651194 q651160).mpr (Or.inl hmq651160)
    have hm651201 : q651161 ∈ P651191 := (hP651194 q651161).mpr (Or.inl hmq651161)
    have hm651202 : q651190 ∈ P651191 := (hP651194 q651190).mpr (Or.inr rfl)
    have hq651203 : q651190 ∉ P651158 := fun z => hq651193 ((rSub_rf (P := P651158)) q651190 z)
    have hfr651204 : rFr [q651160] P651158 F651159 F651192 := rFr_new (rSub_rf (P := P651158)) hq651193 hfr651188 n651196
    have hsb651205 : rSub P651158 P651191 := rSub_new (rSub_rf (P := P651158)) hP651194
    refine G_dup dr_cX14_word_181 rfl ?_
    refine Gw_callI (As := []) (gV_ok D I) (cp_640525_StringBuilder_init l hl0 D I P651191 F651192 q651190 0 0 hm651202 he651199 (gB_w (gBl (show Int32.toInt 0 = 0 by decide)) (by decide) (by decide)) (gB_w (gBl (show Int32.toInt 0 = 0 by decide)) (by decide) (by decide))) dr_cX14_word_182 ⟨wr_7_236, wr_1_20, wr_7_47, by decide, rfl, (Nat.le_of_ble_eq_true rfl), (Nat.le_of_ble_eq_true rfl)⟩ wr_7_46 rfl (show 1 + 1 ≤ ((16 * (p651162.toInt - p651163.toInt)).toNat) by first | omega | decide) (show 4 + 16 ≤ ((256 * (p651162.toInt - p651163.toInt)).toNat) by first | omega | decide) (Nat.le_of_ble_eq_true rfl) (fun r651209 w651210 dc651206 ds651207 hp651208 => ?_)
    obtain ⟨P651212, F651213, q651211, rfl, rfl, hsb651214, hfr651215, he651216, he651217, hm651218, hq651219, hdc, hds⟩ := hp651208
    have hm651220 : q651160 ∈ P651212 := hsb651214 q651160 hm651200
    have hm651221 : q651161 ∈ P651212 := hsb651214 q651161 hm651201
    have hm651222 : q651190 ∈ P651212 := hsb651214 q651190 hm651202
    have hq651223 : q651211 ∉ P651158 := fun z => hq651219 (hsb651205 q651211 z)
    have hsb651224 : rSub P651158 P651212 := rSub_tr hsb651205 hsb651214
    have he651225 : F651213 q651160 = .inr (19, [.ref q651161, .int p651162, .int p651163, .int 6, .int p651165, .int p651166, .int p651167, .ref qo651168, .int p651169, .int p651170, .int p651171, .ref qo651172, .ref qo651173, .int p651174]) := (hfr651215 q651160 hm651200 (nm_c (fun h => hq651203 (h ▸ hmq651160)) nm_n)).trans he651197
    have he651226 : F651213 q651161 = .inl (I .byte, 8192, .inl f651175) := (hfr651215 q651161 hm651201 (nm_c (fun h => hq651203 (h ▸ hmq651161)) nm_n)).trans he651198
    have hfr651227 : rFr [q651160] P651158 F651159 F651213 := rFr_call hsb651205 hfr651204 hfr651215 (fun b hb hn => ⟨(nm_c (fun e => hn (e ▸ List.mem_cons_self)) nm_n), (nm_c (fun e => hq651203 (e ▸ hb)) nm_n)⟩)
    change G _ _ _ _ _ _ _ _ _ _ _
    refine G_widen (cs' := 2) (sl' := 20) (by omega) (by omega) ?_
    refine G_astore_n (L' := [(2, .ref q651190), (1, .int z651182), (0, .ref q651160)]) dr_cX14_word_185 (Nat.le_of_ble_eq_true rfl) rfl ?_
    refine G_widen (cs' := 2 + (0 : Int).toNat) (sl' := 4 + 2 * 16) (by omega) (by omega) ?_
    have hlp186_652640 : ∀ (n186_652640 : Nat) (P652630 : List Nat) (F652624 : Nat → va_E) (g652618 : Int32) (g652619 : Int32) (q652620 : Nat) (n652621 : Nat) (f652622 : Nat → Int32), gB g652618 0 8192 → gB g652619 0 16777216 → gF f652622 (-128) 127 → rSub P651158 P652630 → rFr [q651160] P651158 F651159 F652624 → q651160 ∈ P652630 → F652624 q651160 = .inr (19, [.ref q651161, .int p651162, .int g652618, .int 6, .int p651165, .int p651166, .int p651167, .ref qo651168, .int p651169, .int p651170, .int p651171, .ref qo651172, .ref qo651173, .int p651174]) → q651161 ∈ P652630 → F652624 q651161 = .inl (I .byte, 8192, .inl f651175) → q651190 ∈ P652630 → F652624 q651190 = .inr (1, [.ref q652620, .int 0, .int 0, .int g652619]) → q652620 ∈ P652630 → F652624 q652620 = .inl (I .byte, n652621, .inl f652622) → q652620 ∉ P651158 → p651163.toInt ≤ g652618.toInt → g652618.toInt ≤ p651162.toInt → g652619.toInt = g652618.toInt - p651163.toInt → g652619.toInt ≤ (n652621 : Int) → (n652621 : Int) ≤ 2 * g652619.toInt + 16 → ((8193 : Int) - g652618.toInt).toNat < n186_652640 → G (gV D I) l (gRm 6 132 ((16 * (p651162.toInt - p651163.toInt)).toNat) ((256 * (p651162.toInt - p651163.toInt)).toNat)) (gMA (gV D I) (pp_651181_Reader_word D I P651158 F651159 q651160 q651161 p651162 p651163 p651164 p651165 p651166 p651167 qo651168 p651169 p651170 p651171 qo651172 qo651173 p651174 f651175) gNA ((16 * (p651162.toInt - p651163.toInt)).toNat) ((256 * (p651162.toInt - p651163.toInt)).toNat)) ky_651181_Reader_word 186 [(2, .ref q651190), (1, .int z651182), (0, .ref q651160)] [] (va_pl P652630 F652624) (2 + (g652619.toInt : Int).toNat) (4 + 2 * n652621) := by
      intro n186_652640
      induction n186_652640 with
      | zero => intro P652630 F652624 g652618 g652619 q652620 n652621 f652622 bg652618 bg652619 bf652622 hsb652635 hfr652629 hm652631 he652625 hm652632 he652626 hm652633 he652627 hm652634 he652628 hq652623 x652636 x652637 x652638 x652639 x652640 hm186_652640; exact absurd hm186_652640 (Nat.not_lt_zero _)
      | succ n186_652640 ih186_652640 =>
        intro P652630 F652624 g652618 g652619 q652620 n652621 f652622 bg652618 bg652619 bf652622 hsb652635 hfr652629 hm652631 he652625 hm652632 he652626 hm652633 he652627 hm652634 he652628 hq652623 x652636 x652637 x652638 x652639 x652640 hm186_652640
        refine G_aload_n 2 dr_cX14_word_186 rfl ?_
        refine Gp_get 2 hm652631 he652625 dr_cX14_word_187 (gk_X14 D I) (Nat.le_of_ble_eq_true rfl) wr_9_38 rfl ?_
        refine G_aload_n 2 dr_cX14_word_190 rfl ?_
        refine Gp_get 1 hm652631 he652625 dr_cX14_word_191 (gk_X14 D I) (Nat.le_of_ble_eq_true rfl) wr_9_37 rfl ?_
        refine G_icmp_ge 240 dr_cX14_word_194 (by decide +kernel) (fun hc652641 => ?_) (fun hc652641 => ?_)
        · have r652642 : p651162.toInt ≤ g652618.toInt := gC_le hc652641
          have x652643 : p651163.toInt < g652618.toInt := by first | omega | exact cLt_lt x651178 (by assumption) (isP_0 (by assumption) (by omega)) (by omega)
          refine G_aload_n 2 dr_cX14_word_240 rfl ?_
          refine G_aload_n 0 dr_cX14_word_241 rfl ?_
          refine Gw_callV (As := []) (gV_ok D I) (cp_641280_StringBuilder_toString l hl0 D I P652630 F652624 q651190 q652620 0 g652619 f652622 n652621 hm652633 hm652634 he652627 he652628 (gB_w (gBl (show Int32.toInt 0 = 0 by decide)) (by decide) (by decide)) bg652619 bf652622 (by have qa0 : Int32.toInt 0 = 0 := (by decide); have qa1 : Int32.toInt 6 = 6 := (by decide); omega) (by have qa0 : Int32.toInt 0 = 0 := (by decide); have qa1 : Int32.toInt 6 = 6 := (by decide); omega)) dr_cX14_word_242 ⟨wr_8_66, wr_1_20, wr_8_69, by decide, rfl, (Nat.le_of_ble_eq_true rfl), (Nat.le_of_ble_eq_true rfl)⟩ wr_8_67 wr_8_68 hm652633 he652627 rfl (show 2 + (g652619.toInt : Int).toNat + 2 ≤ ((16 * (p651162.toInt - p651163.toInt)).toNat) by first | omega | decide) (show 4 + 2 * n652621 + (g652619.toInt.toNat + 4) ≤ ((256 * (p651162.toInt - p651163.toInt)).toNat) by first | omega | decide) (Nat.le_of_ble_eq_true rfl) (fun r652647 w652648 dc652644 ds652645 hp652646 => ?_) (fun _ _ _ _ _ z => z.elim)
          obtain ⟨P652655, F652656, q652649, q652650, n652651, f652652, rfl, rfl, hsb652657, hfr652658, he652659, he652660, he652661, he652662, hm652663, hq652664, hm652665, hq652666, hdc, hds, bf652652, x652653, x652654⟩ := hp652646
          have hm652667 : q651160 ∈ P652655 := hsb652657 q651160 hm652631
          have hm652668 : q651161 ∈ P652655 := hsb652657 q651161 hm652632
          have hm652669 : q651190 ∈ P652655 := hsb652657 q651190 hm652633
          have hm652670 : q652620 ∈ P652655 := hsb652657 q652620 hm652634
          have hq652671 : q652649 ∉ P651158 := fun z => hq652664 (hsb652635 q652649 z)
          have hq652672 : q652650 ∉ P651158 := fun z => hq652666 (hsb652635 q652650 z)
          have hsb652673 : rSub P651158 P652655 := rSub_tr hsb652635 hsb652657
          have he652674 : F652656 q651160 = .inr (19, [.ref q651161, .int p651162, .int g652618, .int 6, .int p651165, .int p651166, .int p651167, .ref qo651168, .int p651169, .int p651170, .int p651171, .ref qo651172, .ref qo651173, .int p651174]) := (hfr652658 q651160 hm652631 nm_n).trans he652625
          have he652675 : F652656 q651161 = .inl (I .byte, 8192, .inl f651175) := (hfr652658 q651161 hm652632 nm_n).trans he652626
          have hfr652676 : rFr [q651160] P651158 F651159 F652656 := rFr_call hsb652635 hfr652629 hfr652658 (fun b hb hn => ⟨(nm_c (fun e => hn (e ▸ List.mem_cons_self)) nm_n), nm_n⟩)
          have hne652677 : q652620 ≠ q652650 := fun h => hq652666 (h ▸ hm652634)
          change G _ _ _ _ _ _ _ (.ref q652649 :: _) _ _ _
          refine G_widen (cs' := 2 + (g652619.toInt : Int).toNat + 2) (sl' := 4 + 2 * n652621 + (g652619.toInt.toNat + 4)) (by omega) (by omega) ?_
          have x652678 : (n652651 : Int) = g652618.toInt - p651163.toInt := by omega
          clear he651186 he651187 hfr651188 he651197 he651198 he651199 hm651200 hm651201 hm651202 hfr651204 hsb651205 hsb651214 hfr651215 he651216 he651217 hm651218 hq651219 hm651220 hm651221 hm651222 hq651223 hsb651224 he651225 he651226 hfr651227 hsb652657 hfr652658 hq652664 hq652666; try clear r651209; try clear w651210; try clear dc651206; try clear ds651207; try clear hp651208; try clear r652647; try clear w652648; try clear dc652644; try clear ds652645; try clear hp652646
          refine Gp_put 7 hm652667 he652674 dr_cX14_word_245 (gk_X14 D I) (Nat.le_of_ble_eq_true rfl) wr_9_43 rfl rfl rfl (Nat.le_of_ble_eq_true rfl) (fun F652679 e652680 n652681 => ?_)
          have he652682 : F652679 q651161 = .inl (I .byte, 8192, .inl f651175) := (n652681 q651161 (rn_ao he652675 he652674)).trans he652675
          have he652683 : F652679 q652649 = .inr (0, [.ref q652650, .int 0, .int 0, .int 0]) := (n652681 q652649 (fun h => hq652671 (h ▸ hmq651160))).trans he652659
          have he652684 : F652679 q651190 = .inr (1, [.ref q652620, .int 0, .int 0, .int g652619]) := (n652681 q651190 (fun h => hq651203 (h ▸ hmq651160))).trans he652660
          have he652685 : F652679 q652620 = .inl (I .byte, n652621, .inl f652622) := (n652681 q652620 (fun h => hq652623 (h ▸ hmq651160))).trans he652661
          have he652686 : F652679 q652650 = .inl (I .byte, n652651, .inl f652652) := (n652681 q652650 (fun h => hq652672 (h ▸ hmq651160))).trans he652662
          have he652687 : F652679 q651160 = .inr (19, [.ref q651161, .int p651162, .int g652618, .int 6, .int p651165, .int p651166, .int p651167, .ref q652649, .int p651169, .int p651170, .int p651171, .ref qo651172, .ref qo651173, .int p651174]) := e652680
          have hfr652688 : rFr [q651160] P651158 F651159 F652679 := rFr_put' List.mem_cons_self hfr652676 n652681
          refine G_widen (cs' := (4 + (g652618.toInt - p651163.toInt) : Int).toNat) (sl' := (40 + 5 * (g652618.toInt - p651163.toInt) : Int).toNat) (by omega) (by omega) ?_
          clear he652659 he652660 he652661 he652662 he652674 he652675 hfr652676
          refine G_ldcK (a := D.2 1000 34) dr_cX14_word_248 (fun _ _ _ h => gx_vk 34 rfl rfl h) ?_
          have hl34_652688 : (sb_34.length : Int) = 25 := rfl
          refine G_new [.null, .int 0, .int 0, .int 0] dr_cX14_word_250 (gk_J4 D I) wr_7_235 wr_7_44 wr_1_20 (gfs_J4) (show (4 + (g652618.toInt - p651163.toInt) : Int).toNat + 1 ≤ ((16 * (p651162.toInt - p651163.toInt)).toNat) by first | omega | decide) (show (40 + 5 * (g652618.toInt - p651163.toInt) : Int).toNat + 4 ≤ ((256 * (p651162.toInt - p651163.toInt)).toNat) by first | omega | decide) (fun q652690 => Gp_in (fun P652691 F652692 hq652693 hP652694 e652695 n652696 => ?_))
          refine G_widen (cs' := (4 + (g652618.toInt - p651163.toInt) : Int).toNat + 1) (sl' := (40 + 5 * (g652618.toInt - p651163.toInt) : Int).toNat + 4) (by omega) (by omega) ?_
          have he652697 : F652692 q651160 = .inr (19, [.ref q651161, .int p651162, .int g652618, .int 6, .int p651165, .int p651166, .int p651167, .ref q652649, .int p651169, .int p651170, .int p651171, .ref qo651172, .ref qo651173, .int p651174]) := (n652696 q651160 (fun h => hq652693 (h ▸ hm652667))).trans he652687
          have he652698 : F652692 q651161 = .inl (I .byte, 8192, .inl f651175) := (n652696 q651161 (fun h => hq652693 (h ▸ hm652668))).trans he652682
          have he652699 : F652692 q652649 = .inr (0, [.ref q652650, .int 0, .int 0, .int 0]) := (n652696 q652649 (fun h => hq652693 (h ▸ hm652663))).trans he652683
          have he652700 : F652692 q651190 = .inr (1, [.ref q652620, .int 0, .int 0, .int g652619]) := (n652696 q651190 (fun h => hq652693 (h ▸ hm652669))).trans he652684
          have he652701 : F652692 q652620 = .inl (I .byte, n652621, .inl f652622) := (n652696 q652620 (fun h => hq652693 (h ▸ hm652670))).trans he652685
          have he652702 : F652692 q652650 = .inl (I .byte, n652651, .inl f652652) := (n652696 q652650 (fun h => hq652693 (h ▸ hm652665))).trans he652686
          have he652703 : F652692 q652690 = .inr (1, [.null, .int 0, .int 0, .int 0]) := e652695
          have hm652704 : q651160 ∈ P652691 := (hP652694 q651160).mpr (Or.inl hm652667)
          have hm652705 : q651161 ∈ P652691 := (hP652694 q651161).mpr (Or.inl hm652668)
          have hm652706 : q651190 ∈ P652691 := (hP652694 q651190).mpr (Or.inl hm652669)
          have hm652707 : q652620 ∈ P652691 := (hP652694 q652620).mpr (Or.inl hm652670)
          have hm652708 : q652649 ∈ P652691 := (hP652694 q652649).mpr (Or.inl hm652663)
          have hm652709 : q652650 ∈ P652691 := (hP652694 q652650).mpr (Or.inl hm652665)
          have hm652710 : q652690 ∈ P652691 := (hP652694 q652690).mpr (Or.inr rfl)
          have hq652711 : q652690 ∉ P651158 := fun z => hq652693 (hsb652673 q652690 z)
          have hfr652712 : rFr [q651160] P651158 F651159 F652692 := rFr_new hsb652673 hq652693 hfr652688 n652696
          have hsb652713 : rSub P651158 P652691 := rSub_new hsb652673 hP652694
          have hne652714 : q651190 ≠ q652690 := fun h => hq652693 (h ▸ hm652669)
          refine G_dup dr_cX14_word_253 rfl ?_
          refine Gw_callI (As := []) (gV_ok D I) (cp_640525_StringBuilder_init l hl0 D I P652691 F652692 q652690 0 0 hm652710 he652703 (gB_w (gBl (show Int32.toInt 0 = 0 by decide)) (by decide) (by decide)) (gB_w (gBl (show Int32.toInt 0 = 0 by decide)) (by decide) (by decide))) dr_cX14_word_254 ⟨wr_7_236, wr_1_20, wr_7_47, by decide, rfl, (Nat.le_of_ble_eq_true rfl), (Nat.le_of_ble_eq_true rfl)⟩ wr_7_46 rfl (show (4 + (g652618.toInt - p651163.toInt) : Int).toNat + 1 + 1 ≤ ((16 * (p651162.toInt - p651163.toInt)).toNat) by first | omega | decide) (show (40 + 5 * (g652618.toInt - p651163.toInt) : Int).toNat + 4 + 16 ≤ ((256 * (p651162.toInt - p651163.toInt)).toNat) by first | omega | decide) (Nat.le_of_ble_eq_true rfl) (fun r652718 w652719 dc652715 ds652716 hp652717 => ?_)
          obtain ⟨P652721, F652722, q652720, rfl, rfl, hsb652723, hfr652724, he652725, he652726, hm652727, hq652728, hdc, hds⟩ := hp652717
          have hm652729 : q651160 ∈ P652721 := hsb652723 q651160 hm652704
          have hm652730 : q651161 ∈ P652721 := hsb652723 q651161 hm652705
          have hm652731 : q651190 ∈ P652721 := hsb652723 q651190 hm652706
          have hm652732 : q652620 ∈ P652721 := hsb652723 q652620 hm652707
          have hm652733 : q652649 ∈ P652721 := hsb652723 q652649 hm652708
          have hm652734 : q652650 ∈ P652721 := hsb652723 q652650 hm652709
          have hm652735 : q652690 ∈ P652721 := hsb652723 q652690 hm652710
          have hq652736 : q652720 ∉ P651158 := fun z => hq652728 (hsb652713 q652720 z)
          have hsb652737 : rSub P651158 P652721 := rSub_tr hsb652713 hsb652723
          have he652738 : F652722 q651160 = .inr (19, [.ref q651161, .int p651162, .int g652618, .int 6, .int p651165, .int p651166, .int p651167, .ref q652649, .int p651169, .int p651170, .int p651171, .ref qo651172, .ref qo651173, .int p651174]) := (hfr652724 q651160 hm652704 (nm_c (fun h => hq652711 (h ▸ hmq651160)) nm_n)).trans he652697
          have he652739 : F652722 q651161 = .inl (I .byte, 8192, .inl f651175) := (hfr652724 q651161 hm652705 (nm_c (fun h => hq652711 (h ▸ hmq651161)) nm_n)).trans he652698
          have he652740 : F652722 q652649 = .inr (0, [.ref q652650, .int 0, .int 0, .int 0]) := (hfr652724 q652649 hm652708 (nm_c (rn_oo he652699 he652703 (by decide)) nm_n)).trans he652699
          have he652741 : F652722 q651190 = .inr (1, [.ref q652620, .int 0, .int 0, .int g652619]) := (hfr652724 q651190 hm652706 (nm_c hne652714 nm_n)).trans he652700
          have he652742 : F652722 q652620 = .inl (I .byte, n652621, .inl f652622) := (hfr652724 q652620 hm652707 (nm_c (rn_ao he652701 he652703) nm_n)).trans he652701
          have he652743 : F652722 q652650 = .inl (I .byte, n652651, .inl f652652) := (hfr652724 q652650 hm652709 (nm_c (rn_ao he652702 he652703) nm_n)).trans he652702
          have hfr652744 : rFr [q651160] P651158 F651159 F652722 := rFr_call hsb652713 hfr652712 hfr652724 (fun b hb hn => ⟨(nm_c (fun e => hn (e ▸ List.mem_cons_self)) nm_n), (nm_c (fun e => hq652711 (e ▸ hb)) nm_n)⟩)
          have hne652745 : q652620 ≠ q652720 := fun h => hq652728 (h ▸ hm652707)
          have hne652746 : q652650 ≠ q652720 := fun h => hq652728 (h ▸ hm652709)
          change G _ _ _ _ _ _ _ _ _ _ _
          refine G_widen (cs' := (4 + (g652618.toInt - p651163.toInt) : Int).toNat + 1 + 1) (sl' := (40 + 5 * (g652618.toInt - p651163.toInt) : Int).toNat + 4 + 16) (by omega) (by omega) ?_
          refine G_ldcK (a := D.2 1000 35) dr_cX14_word_257 (fun _ _ _ h => gx_vk 35 rfl rfl h) ?_
          have hl35_652746 : (sb_35.length : Int) = 1 := rfl
          refine Gw_callV (As := [.ref (D.2 1000 35)]) (gV_ok D I) (cp_640822_StringBuilder_append l hl0 D I P652721 F652722 q652690 q652720 (D.2 1000 35) (D.2 1001 35) sb_35 0 0 (fun _ => 0) 16 hm652735 hm652727 he652725 he652726 (gx_sc 35 rfl rfl) (by omega) (by decide +kernel) (gB_w (gBl (show Int32.toInt 0 = 0 by decide)) (by decide) (by decide)) (gB_w (gBl (show Int32.toInt 0 = 0 by decide)) (by decide) (by decide)) (gF_w gF_0 (by decide) (by decide)) (by have qa0 : Int32.toInt 0 = 0 := (by decide); have qa1 : Int32.toInt 6 = 6 := (by decide); omega) (by have qa0 : Int32.toInt 0 = 0 := (by decide); have qa1 : Int32.toInt 6 = 6 := (by decide); omega)) dr_cX14_word_259 ⟨wr_8_195, wr_1_20, wr_8_143, by decide, rfl, (Nat.le_of_ble_eq_true rfl), (Nat.le_of_ble_eq_true rfl)⟩ wr_8_141 wr_8_142 hm652735 he652725 rfl (show (4 + (g652618.toInt - p651163.toInt) : Int).toNat + 1 + 1 + 0 ≤ ((16 * (p651162.toInt - p651163.toInt)).toNat) by first | omega | decide) (show (40 + 5 * (g652618.toInt - p651163.toInt) : Int).toNat + 4 + 16 + 0 ≤ ((256 * (p651162.toInt - p651163.toInt)).toNat) by first | omega | decide) (Nat.le_of_ble_eq_true rfl) (fun r652751 w652752 dc652748 ds652749 hp652750 => ?_) (fun _ _ _ _ _ z => z.elim)
          obtain ⟨F652758, o652753, f652754, rfl, rfl, hfr652760, he652761, he652762, hdc, hds, bo652753, bf652754, x652755, x652756, x652757⟩ := hp652750
          have he652763 : F652758 q651160 = .inr (19, [.ref q651161, .int p651162, .int g652618, .int 6, .int p651165, .int p651166, .int p651167, .ref q652649, .int p651169, .int p651170, .int p651171, .ref qo651172, .ref qo651173, .int p651174]) := (hfr652760 q651160 hm652729 (nm_c (fun h => hq652711 (h ▸ hmq651160)) (nm_c (fun h => hq652736 (h ▸ hmq651160)) nm_n))).trans he652738
          have he652764 : F652758 q651161 = .inl (I .byte, 8192, .inl f651175) := (hfr652760 q651161 hm652730 (nm_c (fun h => hq652711 (h ▸ hmq651161)) (nm_c (fun h => hq652736 (h ▸ hmq651161)) nm_n))).trans he652739
          have he652765 : F652758 q652649 = .inr (0, [.ref q652650, .int 0, .int 0, .int 0]) := (hfr652760 q652649 hm652733 (nm_c (rn_oo he652740 he652725 (by decide)) (nm_c (rn_oa he652740 he652726) nm_n))).trans he652740
          have he652766 : F652758 q651190 = .inr (1, [.ref q652620, .int 0, .int 0, .int g652619]) := (hfr652760 q651190 hm652731 (nm_c hne652714 (nm_c (rn_oa he652741 he652726) nm_n))).trans he652741
          have he652767 : F652758 q652620 = .inl (I .byte, n652621, .inl f652622) := (hfr652760 q652620 hm652732 (nm_c (rn_ao he652742 he652725) (nm_c hne652745 nm_n))).trans he652742
          have he652768 : F652758 q652650 = .inl (I .byte, n652651, .inl f652652) := (hfr652760 q652650 hm652734 (nm_c (rn_ao he652743 he652725) (nm_c hne652746 nm_n))).trans he652743
          have hfr652769 : rFr [q651160] P651158 F651159 F652758 := rFr_call hsb652737 hfr652744 hfr652760 (fun b hb hn => ⟨(nm_c (fun e => hn (e ▸ List.mem_cons_self)) nm_n), (nm_c (fun e => hq652711 (e ▸ hb)) (nm_c (fun e => hq652736 (e ▸ hb)) nm_n))⟩)
          rw [show Int32.toInt 0 = 0 from by decide] at x652755
          have bo652753' : gB o652753 1 1 := ⟨by omega, by omega⟩
          rw [show Int32.toInt 0 = 0 from by decide] at x652756
          rw [show Int32.toInt 0 = 0 from by decide] at x652757
          change G _ _ _ _ _ _ _ (.ref q652690 :: _) _ _ _
          refine G_widen (cs' := (4 + (g652618.toInt - p651163.toInt) : Int).toNat + 1 + 1 + 0) (sl' := (40 + 5 * (g652618.toInt - p651163.toInt) : Int).toNat + 4 + 16 + 0) (by omega) (by omega) ?_
          refine G_aload_n 2 dr_cX14_word_262 rfl ?_
          clear hm652663 hm652665 hm652667 hm652668 hm652669 hm652670 hsb652673 he652682 he652683 he652684 he652685 he652686 he652687 hfr652688 he652697 he652698 he652699 he652700 he652701 he652702 he652703 hm652704 hm652705 hm652706 hm652707 hm652708 hm652709 hm652710 hfr652712 hsb652713 hsb652723 hfr652724 he652725 he652726 hq652728 he652738 he652739 he652740 he652741 he652742 he652743 hfr652744 hfr652760 bo652753; try clear r652718; try clear w652719; try clear dc652715; try clear ds652716; try clear hp652717; try clear r652751; try clear w652752; try clear dc652748; try clear ds652749; try clear hp652750
          refine Gp_get 7 hm652729 he652763 dr_cX14_word_263 (gk_X14 D I) (Nat.le_of_ble_eq_true rfl) wr_9_43 rfl ?_
          refine Gw_callV (As := [.ref q652649]) (gV_ok D I) (cp_641017_StringBuilder_append l hl0 D I P652721 F652758 q652690 q652649 q652720 q652650 0 o652753 0 0 f652754 16 f652652 n652651 hm652735 hm652733 hm652727 hm652734 he652761 he652765 he652762 he652768 (Ne.symm hne652746) (gB_w (gBl (show Int32.toInt 0 = 0 by decide)) (by decide) (by decide)) (gB_w bo652753' (by decide) (by decide)) (gB_w (gBl (show Int32.toInt 0 = 0 by decide)) (by decide) (by decide)) bf652754 bf652652 (by have qa0 : Int32.toInt 0 = 0 := (by decide); have qa1 : Int32.toInt 6 = 6 := (by decide); omega) (by have qa0 : Int32.toInt 0 = 0 := (by decide); have qa1 : Int32.toInt 6 = 6 := (by decide); omega) (by have qa0 : Int32.toInt 0 = 0 := (by decide); have qa1 : Int32.toInt 6 = 6 := (by decide); omega) (by have qa0 : Int32.toInt 0 = 0 := (by decide); have qa1 : Int32.toInt 6 = 6 := (by decide); omega) (by have qa0 : Int32.toInt 0 = 0 := (by decide); have qa1 : Int32.toInt 6 = 6 := (by decide); omega)) dr_cX14_word_266 ⟨wr_8_195, wr_1_20, wr_8_143, by decide, rfl, (Nat.le_of_ble_eq_true rfl), (Nat.le_of_ble_eq_true rfl)⟩ wr_8_141 wr_8_142 hm652735 he652761 rfl (show (4 + (g652618.toInt - p651163.toInt) : Int).toNat + 1 + 1 + 0 + 1 ≤ ((16 * (p651162.toInt - p651163.toInt)).toNat) by first | omega | decide) (show (40 + 5 * (g652618.toInt - p651163.toInt) : Int).toNat + 4 + 16 + 0 + (4 * 16 + 4 + 2 * n652651) ≤ ((256 * (p651162.toInt - p651163.toInt)).toNat) by first | omega | decide) (Nat.le_of_ble_eq_true rfl) (fun r652773 w652774 dc652770 ds652771 hp652772 => ?_) (fun _ _ _ _ _ z => z.elim)
          obtain ⟨P652783, F652784, o652775, q652776, n652777, f652778, rfl, rfl, hsb652785, hfr652786, he652787, he652788, he652789, he652790, hm652791, hq652792, hdc, hds, bo652775, bf652778, x652779, x652780, x652781, x652782⟩ := hp652772
          have hm652793 : q651160 ∈ P652783 := hsb652785 q651160 hm652729
          have hm652794 : q651161 ∈ P652783 := hsb652785 q651161 hm652730
          have hm652795 : q651190 ∈ P652783 := hsb652785 q651190 hm652731
          have hm652796 : q652620 ∈ P652783 := hsb652785 q652620 hm652732
          have hm652797 : q652649 ∈ P652783 := hsb652785 q652649 hm652733
          have hm652798 : q652650 ∈ P652783 := hsb652785 q652650 hm652734
          have hm652799 : q652690 ∈ P652783 := hsb652785 q652690 hm652735
          have hm652800 : q652720 ∈ P652783 := hsb652785 q652720 hm652727
          have hq652801 : q652776 ∉ P651158 := fun z => hq652792.elim (fun e => hq652736 (e ▸ z)) (fun n => n (hsb652737 _ z))
          have hsb652802 : rSub P651158 P652783 := rSub_tr hsb652737 hsb652785
          have he652803 : F652784 q651160 = .inr (19, [.ref q651161, .int p651162, .int g652618, .int 6, .int p651165, .int p651166, .int p651167, .ref q652649, .int p651169, .int p651170, .int p651171, .ref qo651172, .ref qo651173, .int p651174]) := (hfr652786 q651160 hm652729 (nm_c (fun h => hq652711 (h ▸ hmq651160)) (nm_c (fun h => hq652736 (h ▸ hmq651160)) nm_n))).trans he652763
          have he652804 : F652784 q651161 = .inl (I .byte, 8192, .inl f651175) := (hfr652786 q651161 hm652730 (nm_c (fun h => hq652711 (h ▸ hmq651161)) (nm_c (fun h => hq652736 (h ▸ hmq651161)) nm_n))).trans he652764
          have he652805 : F652784 q651190 = .inr (1, [.ref q652620, .int 0, .int 0, .int g652619]) := (hfr652786 q651190 hm652731 (nm_c hne652714 (nm_c (rn_oa he652766 he652762) nm_n))).trans he652766
          have he652806 : F652784 q652620 = .inl (I .byte, n652621, .inl f652622) := (hfr652786 q652620 hm652732 (nm_c (rn_ao he652767 he652761) (nm_c hne652745 nm_n))).trans he652767
          have hfr652807 : rFr [q651160] P651158 F651159 F652784 := rFr_call hsb652737 hfr652769 hfr652786 (fun b hb hn => ⟨(nm_c (fun e => hn (e ▸ List.mem_cons_self)) nm_n), (nm_c (fun e => hq652711 (e ▸ hb)) (nm_c (fun e => hq652736 (e ▸ hb)) nm_n))⟩)
          have hne652808 : q652620 ≠ q652776 := fun e => hq652792.elim (fun e2 => hne652745 (e.trans e2)) (fun n => n (e ▸ hm652732))
          have hne652809 : q652650 ≠ q652776 := fun e => hq652792.elim (fun e2 => hne652746 (e.trans e2)) (fun n => n (e ▸ hm652734))
          have bo652775' : gB o652775 1 16777216 := ⟨by omega, by omega⟩
          change G _ _ _ _ _ _ _ (.ref q652690 :: _) _ _ _
          refine G_widen (cs' := (4 + (g652618.toInt - p651163.toInt) : Int).toNat + 1 + 1 + 0 + 1) (sl' := (40 + 5 * (g652618.toInt - p651163.toInt) : Int).toNat + 4 + 16 + 0 + (2 * (n652777 - 16))) (by omega) (by omega) ?_
          refine G_widen (cs' := (7 + (g652618.toInt - p651163.toInt) : Int).toNat) (sl' := (98 + 7 * (g652618.toInt - p651163.toInt) : Int).toNat) (by omega) (by omega) ?_
          clear hm652727 hm652729 hm652730 hm652731 hm652732 hm652733 hm652734 hm652735 hq652736 hsb652737 hne652745 hne652746 he652761 he652762 bf652754 he652763 he652764 he652765 he652766 he652767 he652768 hfr652769 hsb652785 hfr652786 hq652792 bo652775 hm652800; try clear x652756; try clear x652757; try clear r652773; try clear w652774; try clear dc652770; try clear ds652771; try clear hp652772
          refine G_ldcK (a := D.2 1000 35) dr_cX14_word_269 (fun _ _ _ h => gx_vk 35 rfl rfl h) ?_
          have hl35_652809 : (sb_35.length : Int) = 1 := rfl
          refine Gw_callV (As := [.ref (D.2 1000 35)]) (gV_ok D I) (cp_641160_StringBuilder_append l hl0 D I P652783 F652784 q652690 q652776 (D.2 1000 35) (D.2 1001 35) sb_35 0 o652775 f652778 n652777 hm652799 hm652791 he652787 he652789 (gx_sc 35 rfl rfl) (by omega) (by decide +kernel) (gB_w (gBl (show Int32.toInt 0 = 0 by decide)) (by decide) (by decide)) (gB_w bo652775' (by decide) (by decide)) bf652778 (by have qa0 : Int32.toInt 0 = 0 := (by decide); have qa1 : Int32.toInt 6 = 6 := (by decide); omega) (by have qa0 : Int32.toInt 0 = 0 := (by decide); have qa1 : Int32.toInt 6 = 6 := (by decide); omega) (by have qa0 : Int32.toInt 0 = 0 := (by decide); have qa1 : Int32.toInt 6 = 6 := (by decide); omega) (by have qa0 : Int32.toInt 0 = 0 := (by decide); have qa1 : Int32.toInt 6 = 6 := (by decide); omega)) dr_cX14_word_271 ⟨wr_8_195, wr_1_20, wr_8_143, by decide, rfl, (Nat.le_of_ble_eq_true rfl), (Nat.le_of_ble_eq_true rfl)⟩ wr_8_141 wr_8_142 hm652799 he652787 rfl (show (7 + (g652618.toInt - p651163.toInt) : Int).toNat + 1 ≤ ((16 * (p651162.toInt - p651163.toInt)).toNat) by first | omega | decide) (show (98 + 7 * (g652618.toInt - p651163.toInt) : Int).toNat + (4 * n652777 + 4 + 2 * sb_35.length) ≤ ((256 * (p651162.toInt - p651163.toInt)).toNat) by first | omega | decide) (Nat.le_of_ble_eq_true rfl) (fun r652814 w652815 dc652811 ds652812 hp652813 => ?_) (fun _ _ _ _ _ z => z.elim)
          obtain ⟨P652824, F652825, o652816, q652817, n652818, f652819, rfl, rfl, hsb652826, hfr652827, he652828, he652829, hm652830, hq652831, hdc, hds, bo652816, bf652819, x652820, x652821, x652822, x652823⟩ := hp652813
          have hm652832 : q651160 ∈ P652824 := hsb652826 q651160 hm652793
          have hm652833 : q651161 ∈ P652824 := hsb652826 q651161 hm652794
          have hm652834 : q651190 ∈ P652824 := hsb652826 q651190 hm652795
          have hm652835 : q652620 ∈ P652824 := hsb652826 q652620 hm652796
          have hm652836 : q652649 ∈ P652824 := hsb652826 q652649 hm652797
          have hm652837 : q652650 ∈ P652824 := hsb652826 q652650 hm652798
          have hm652838 : q652690 ∈ P652824 := hsb652826 q652690 hm652799
          have hm652839 : q652776 ∈ P652824 := hsb652826 q652776 hm652791
          have hq652840 : q652817 ∉ P651158 := fun z => hq652831.elim (fun e => hq652801 (e ▸ z)) (fun n => n (hsb652802 _ z))
          have hsb652841 : rSub P651158 P652824 := rSub_tr hsb652802 hsb652826
          have he652842 : F652825 q651160 = .inr (19, [.ref q651161, .int p651162, .int g652618, .int 6, .int p651165, .int p651166, .int p651167, .ref q652649, .int p651169, .int p651170, .int p651171, .ref qo651172, .ref qo651173, .int p651174]) := (hfr652827 q651160 hm652793 (nm_c (fun h => hq652711 (h ▸ hmq651160)) (nm_c (fun h => hq652801 (h ▸ hmq651160)) nm_n))).trans he652803
          have he652843 : F652825 q651161 = .inl (I .byte, 8192, .inl f651175) := (hfr652827 q651161 hm652794 (nm_c (fun h => hq652711 (h ▸ hmq651161)) (nm_c (fun h => hq652801 (h ▸ hmq651161)) nm_n))).trans he652804
          have he652844 : F652825 q651190 = .inr (1, [.ref q652620, .int 0, .int 0, .int g652619]) := (hfr652827 q651190 hm652795 (nm_c hne652714 (nm_c (rn_oa he652805 he652789) nm_n))).trans he652805
          have he652845 : F652825 q652620 = .inl (I .byte, n652621, .inl f652622) := (hfr652827 q652620 hm652796 (nm_c (rn_ao he652806 he652787) (nm_c hne652808 nm_n))).trans he652806
          have he652846 : F652825 q652649 = .inr (0, [.ref q652650, .int 0, .int 0, .int 0]) := (hfr652827 q652649 hm652797 (nm_c (rn_oo he652788 he652787 (by decide)) (nm_c (rn_oa he652788 he652789) nm_n))).trans he652788
          have he652847 : F652825 q652650 = .inl (I .byte, n652651, .inl f652652) := (hfr652827 q652650 hm652798 (nm_c (rn_ao he652790 he652787) (nm_c hne652809 nm_n))).trans he652790
          have hfr652848 : rFr [q651160] P651158 F651159 F652825 := rFr_call hsb652802 hfr652807 hfr652827 (fun b hb hn => ⟨(nm_c (fun e => hn (e ▸ List.mem_cons_self)) nm_n), (nm_c (fun e => hq652711 (e ▸ hb)) (nm_c (fun e => hq652801 (e ▸ hb)) nm_n))⟩)
          have hne652849 : q652620 ≠ q652817 := fun e => hq652831.elim (fun e2 => hne652808 (e.trans e2)) (fun n => n (e ▸ hm652796))
          have hne652850 : q652650 ≠ q652817 := fun e => hq652831.elim (fun e2 => hne652809 (e.trans e2)) (fun n => n (e ▸ hm652798))
          have bo652816' : gB o652816 2 16777216 := ⟨by omega, by omega⟩
          change G _ _ _ _ _ _ _ (.ref q652690 :: _) _ _ _
          refine G_widen (cs' := (7 + (g652618.toInt - p651163.toInt) : Int).toNat + 1) (sl' := (98 + 7 * (g652618.toInt - p651163.toInt) : Int).toNat + (2 * (n652818 - n652777))) (by omega) (by omega) ?_
          refine G_widen (cs' := (8 + (g652618.toInt - p651163.toInt) : Int).toNat) (sl' := (214 + 13 * (g652618.toInt - p651163.toInt) : Int).toNat) (by omega) (by omega) ?_
          clear he652787 he652788 he652789 he652790 hm652791 bf652778 hm652793 hm652794 hm652795 hm652796 hm652797 hm652798 hm652799 hq652801 hsb652802 he652803 he652804 he652805 he652806 hfr652807 hne652808 hne652809 hsb652826 hfr652827 hq652831 bo652816 hm652839; try clear r652814; try clear w652815; try clear dc652811; try clear ds652812; try clear hp652813
          refine Gw_callV (As := []) (gV_ok D I) (cp_641280_StringBuilder_toString l hl0 D I P652824 F652825 q652690 q652817 0 o652816 f652819 n652818 hm652838 hm652830 he652828 he652829 (gB_w (gBl (show Int32.toInt 0 = 0 by decide)) (by decide) (by decide)) (gB_w bo652816' (by decide) (by decide)) bf652819 (by have qa0 : Int32.toInt 0 = 0 := (by decide); have qa1 : Int32.toInt 6 = 6 := (by decide); omega) (by have qa0 : Int32.toInt 0 = 0 := (by decide); have qa1 : Int32.toInt 6 = 6 := (by decide); omega)) dr_cX14_word_274 ⟨wr_8_66, wr_1_20, wr_8_69, by decide, rfl, (Nat.le_of_ble_eq_true rfl), (Nat.le_of_ble_eq_true rfl)⟩ wr_8_67 wr_8_68 hm652838 he652828 rfl (show (8 + (g652618.toInt - p651163.toInt) : Int).toNat + 2 ≤ ((16 * (p651162.toInt - p651163.toInt)).toNat) by first | omega | decide) (show (214 + 13 * (g652618.toInt - p651163.toInt) : Int).toNat + (o652816.toInt.toNat + 4) ≤ ((256 * (p651162.toInt - p651163.toInt)).toNat) by first | omega | decide) (Nat.le_of_ble_eq_true rfl) (fun r652854 w652855 dc652851 ds652852 hp652853 => ?_) (fun _ _ _ _ _ z => z.elim)
          obtain ⟨P652862, F652863, q652856, q652857, n652858, f652859, rfl, rfl, hsb652864, hfr652865, he652866, he652867, he652868, he652869, hm652870, hq652871, hm652872, hq652873, hdc, hds, bf652859, x652860, x652861⟩ := hp652853
          have hm652874 : q651160 ∈ P652862 := hsb652864 q651160 hm652832
          have hm652875 : q651161 ∈ P652862 := hsb652864 q651161 hm652833
          have hm652876 : q651190 ∈ P652862 := hsb652864 q651190 hm652834
          have hm652877 : q652620 ∈ P652862 := hsb652864 q652620 hm652835
          have hm652878 : q652649 ∈ P652862 := hsb652864 q652649 hm652836
          have hm652879 : q652650 ∈ P652862 := hsb652864 q652650 hm652837
          have hm652880 : q652690 ∈ P652862 := hsb652864 q652690 hm652838
          have hm652881 : q652817 ∈ P652862 := hsb652864 q652817 hm652830
          have hq652882 : q652856 ∉ P651158 := fun z => hq652871 (hsb652841 q652856 z)
          have hq652883 : q652857 ∉ P651158 := fun z => hq652873 (hsb652841 q652857 z)
          have hsb652884 : rSub P651158 P652862 := rSub_tr hsb652841 hsb652864
          have he652885 : F652863 q651160 = .inr (19, [.ref q651161, .int p651162, .int g652618, .int 6, .int p651165, .int p651166, .int p651167, .ref q652649, .int p651169, .int p651170, .int p651171, .ref qo651172, .ref qo651173, .int p651174]) := (hfr652865 q651160 hm652832 nm_n).trans he652842
          have he652886 : F652863 q651161 = .inl (I .byte, 8192, .inl f651175) := (hfr652865 q651161 hm652833 nm_n).trans he652843
          have he652887 : F652863 q651190 = .inr (1, [.ref q652620, .int 0, .int 0, .int g652619]) := (hfr652865 q651190 hm652834 nm_n).trans he652844
          have he652888 : F652863 q652620 = .inl (I .byte, n652621, .inl f652622) := (hfr652865 q652620 hm652835 nm_n).trans he652845
          have he652889 : F652863 q652649 = .inr (0, [.ref q652650, .int 0, .int 0, .int 0]) := (hfr652865 q652649 hm652836 nm_n).trans he652846
          have he652890 : F652863 q652650 = .inl (I .byte, n652651, .inl f652652) := (hfr652865 q652650 hm652837 nm_n).trans he652847
          have hfr652891 : rFr [q651160] P651158 F651159 F652863 := rFr_call hsb652841 hfr652848 hfr652865 (fun b hb hn => ⟨(nm_c (fun e => hn (e ▸ List.mem_cons_self)) nm_n), nm_n⟩)
          have hne652892 : q652649 ≠ q652856 := fun h => hq652871 (h ▸ hm652836)
          have hne652893 : q652620 ≠ q652857 := fun h => hq652873 (h ▸ hm652835)
          have hne652894 : q652650 ≠ q652857 := fun h => hq652873 (h ▸ hm652837)
          have hne652895 : q652817 ≠ q652857 := fun h => hq652873 (h ▸ hm652830)
          change G _ _ _ _ _ _ _ (.ref q652856 :: _) _ _ _
          refine G_widen (cs' := (8 + (g652618.toInt - p651163.toInt) : Int).toNat + 2) (sl' := (214 + 13 * (g652618.toInt - p651163.toInt) : Int).toNat + (o652816.toInt.toNat + 4)) (by omega) (by omega) ?_
          refine G_widen (cs' := (10 + (g652618.toInt - p651163.toInt) : Int).toNat) (sl' := (220 + 14 * (g652618.toInt - p651163.toInt) : Int).toNat) (by omega) (by omega) ?_
          clear hq652711 hne652714 he652828 he652829 hm652830 bf652819 hm652832 hm652833 hm652834 hm652835 hm652836 hm652837 hm652838 hq652840 hsb652841 he652842 he652843 he652844 he652845 he652846 he652847 hfr652848 hne652849 hne652850 hsb652864 hfr652865 he652867 he652868 hq652871 hq652873 hm652880 hm652881 hne652895; try clear r652854; try clear w652855; try clear dc652851; try clear ds652852; try clear hp652853; try clear x652861
          refine Gw_callVk (As := [.ref q652856]) (gV_ok D I) (cp_641729_String_indexOf l hl0 D I P652862 F652863 q652856 q652857 (D.2 1000 34) (D.2 1001 34) sb_34 0 0 f652859 n652858 hm652870 hm652872 he652866 he652869 (gx_sc 34 rfl rfl) (by omega) (by decide +kernel) (gB_w (gBl (show Int32.toInt 0 = 0 by decide)) (by decide) (by decide)) bf652859 (by have qa0 : Int32.toInt 0 = 0 := (by decide); have qa1 : Int32.toInt 6 = 6 := (by decide); omega) (by have qa0 : Int32.toInt 0 = 0 := (by decide); have qa1 : Int32.toInt 6 = 6 := (by decide); omega)) dr_cX14_word_277 ⟨wr_8_196, wr_1_21, wr_8_199, by decide, rfl, (Nat.le_of_ble_eq_true rfl), (Nat.le_of_ble_eq_true rfl)⟩ wr_8_197 wr_8_198 (fun _ _ _ h => ((gx_sc 34 rfl rfl) _ _ _ h).1) (show (10 + (g652618.toInt - p651163.toInt) : Int).toNat + 0 ≤ ((16 * (p651162.toInt - p651163.toInt)).toNat) by first | omega | decide) (show (220 + 14 * (g652618.toInt - p651163.toInt) : Int).toNat + 0 ≤ ((256 * (p651162.toInt - p651163.toInt)).toNat) by first | omega | decide) (Nat.le_of_ble_eq_true rfl) (fun r652899 w652900 dc652896 ds652897 hp652898 => ?_) (fun _ _ _ _ _ z => z.elim)
          obtain ⟨o652901, rfl, rfl, hdc, hds, bo652901, x652902, x652903⟩ := hp652898
          change G _ _ _ _ _ _ _ (.int o652901 :: _) _ _ _
          refine G_widen (cs' := (10 + (g652618.toInt - p651163.toInt) : Int).toNat + 0) (sl' := (220 + 14 * (g652618.toInt - p651163.toInt) : Int).toNat + 0) (by omega) (by omega) ?_
          clear he652866 he652869 hm652870 hm652872 bf652859 hq652882 hq652883 hne652892 hne652893 hne652894; try clear r652899; try clear w652900; try clear dc652896; try clear ds652897; try clear hp652898; try clear x652903
          refine G_if_lt 288 dr_cX14_word_280 (by decide +kernel) (fun hc652904 => ?_) (fun hc652904 => ?_)
          · have r652905 : o652901.toInt < 0 := gj_lt hc652904 (show Int32.toInt 0 = 0 by decide)
            have bo652901' : gB o652901 (-2147483646) (-1) := ⟨by omega, by omega⟩
            exact G_vretA dr_cX14_word_288 rfl (show (10 + (g652618.toInt - p651163.toInt) : Int).toNat + 0 ≤ ((16 * (p651162.toInt - p651163.toInt)).toNat) by omega) (show (220 + 14 * (g652618.toInt - p651163.toInt) : Int).toNat + 0 ≤ ((256 * (p651162.toInt - p651163.toInt)).toNat) by omega) ⟨P652862, F652863, g652618, 6, p651166, q652649, rfl, rfl, hsb652884, hfr652891, he652885, he652886, (by omega), (by omega), bg652618, (gB_w (gBl (show Int32.toInt 6 = 6 by decide)) (by decide) (by decide)), (by have qa0 : Int32.toInt 0 = 0 := (by decide); have qa1 : Int32.toInt 6 = 6 := (by decide); omega), (by have qa0 : Int32.toInt 0 = 0 := (by decide); have qa1 : Int32.toInt 6 = 6 := (by decide); omega), (tP_no (by decide) (by decide)), (vP_no (by decide) (by decide))⟩
          · have r652906 : 0 ≤ o652901.toInt := gj_nlt hc652904 (show Int32.toInt 0 = 0 by decide)
            have bo652901' : gB o652901 0 16777215 := ⟨by omega, by omega⟩
            refine G_aload_n 2 dr_cX14_word_283 rfl ?_
            refine G_iconst 1 dr_cX14_word_284 (by decide +kernel) ?_
            refine Gp_put 3 hm652874 he652885 dr_cX14_word_285 (gk_X14 D I) (Nat.le_of_ble_eq_true rfl) wr_9_39 rfl rfl rfl (Nat.le_of_ble_eq_true rfl) (fun F652907 e652908 n652909 => ?_)
            have he652910 : F652907 q651161 = .inl (I .byte, 8192, .inl f651175) := (n652909 q651161 (rn_ao he652886 he652885)).trans he652886
            have he652911 : F652907 q651190 = .inr (1, [.ref q652620, .int 0, .int 0, .int g652619]) := (n652909 q651190 (fun h => hq651203 (h ▸ hmq651160))).trans he652887
            have he652912 : F652907 q652620 = .inl (I .byte, n652621, .inl f652622) := (n652909 q652620 (fun h => hq652623 (h ▸ hmq651160))).trans he652888
            have he652913 : F652907 q652649 = .inr (0, [.ref q652650, .int 0, .int 0, .int 0]) := (n652909 q652649 (fun h => hq652671 (h ▸ hmq651160))).trans he652889
            have he652914 : F652907 q652650 = .inl (I .byte, n652651, .inl f652652) := (n652909 q652650 (fun h => hq652672 (h ▸ hmq651160))).trans he652890
            have he652915 : F652907 q651160 = .inr (19, [.ref q651161, .int p651162, .int g652618, .int 1, .int p651165, .int p651166, .int p651167, .ref q652649, .int p651169, .int p651170, .int p651171, .ref qo651172, .ref qo651173, .int p651174]) := e652908
            have hfr652916 : rFr [q651160] P651158 F651159 F652907 := rFr_put' List.mem_cons_self hfr652891 n652909
            exact G_vretA dr_cX14_word_288 rfl (show (10 + (g652618.toInt - p651163.toInt) : Int).toNat + 0 ≤ ((16 * (p651162.toInt - p651163.toInt)).toNat) by omega) (show (220 + 14 * (g652618.toInt - p651163.toInt) : Int).toNat + 0 ≤ ((256 * (p651162.toInt - p651163.toInt)).toNat) by omega) ⟨P652862, F652907, g652618, 1, p651166, q652649, rfl, rfl, hsb652884, hfr652916, he652915, he652910, (by omega), (by omega), bg652618, (gB_w (gBl (show Int32.toInt 1 = 1 by decide)) (by decide) (by decide)), (by have qa0 : Int32.toInt 0 = 0 := (by decide); have qa1 : Int32.toInt 1 = 1 := (by decide); omega), (by have qa0 : Int32.toInt 0 = 0 := (by decide); have qa1 : Int32.toInt 1 = 1 := (by decide); omega), (tP_1 hm652878 he652913 hm652879 he652914 bf652652 (by omega) (gB_w (gBl (show Int32.toInt 0 = 0 by decide)) (by decide) (by decide)) (fun e => hq652672 (e ▸ x651179)) (fun e => hq652672 (e ▸ x651180))), (vP_no (by decide) (by decide))⟩
        · have r652917 : g652618.toInt < p651162.toInt := gC_nle hc652641
          have bg652618' : gB g652618 0 8191 := ⟨by omega, by omega⟩
          have bp651162' : gB p651162 1 8192 := ⟨by omega, by omega⟩
          refine G_aload_n 2 dr_cX14_word_197 rfl ?_
          refine Gp_get 0 hm652631 he652625 dr_cX14_word_198 (gk_X14 D I) (Nat.le_of_ble_eq_true rfl) wr_9_36 rfl ?_
          refine G_aload_n 2 dr_cX14_word_201 rfl ?_
          refine Gp_get 2 hm652631 he652625 dr_cX14_word_202 (gk_X14 D I) (Nat.le_of_ble_eq_true rfl) wr_9_38 rfl ?_
          refine Gp_bald 1 hm652632 he652626 dr_cX14_word_205 rfl (gB_in bg652618' (by decide) (by decide)) (G_nam fun z652918 hz652918 => ?_)
          have bz652918 : gB z652918 (-128) 127 := by rw [hz652918]; exact bf651175 _
          refine Gw_callS (As := [.int z652918]) (gV_ok D I) (cp_651516_Reader_isLetter l hl0 D I P652630 F652624 z652918 ) dr_cX14_word_206 ⟨wr_7_222, wr_1_32, wr_7_224, by decide, rfl, (Nat.le_of_ble_eq_true rfl), (Nat.le_of_ble_eq_true rfl)⟩ wr_7_223 (show 2 + (g652619.toInt : Int).toNat + 0 ≤ ((16 * (p651162.toInt - p651163.toInt)).toNat) by first | omega | decide) (show 4 + 2 * n652621 + 0 ≤ ((256 * (p651162.toInt - p651163.toInt)).toNat) by first | omega | decide) (Nat.le_of_ble_eq_true rfl) (fun r652922 w652923 dc652919 ds652920 hp652921 => ?_) (fun _ _ _ _ _ z => z.elim)
          obtain ⟨o652924, rfl, rfl, hdc, hds, bo652924, x652925⟩ := hp652921
          change G _ _ _ _ _ _ _ (.int o652924 :: _) _ _ _
          refine G_widen (cs' := 2 + (g652619.toInt : Int).toNat + 0) (sl' := 4 + 2 * n652621 + 0) (by omega) (by omega) ?_
          refine G_if_eq 240 dr_cX14_word_209 (by decide +kernel) (fun hc652926 => ?_) (fun hc652926 => ?_)
          · have r652927 : o652924.toInt = 0 := gj_eq hc652926 (show Int32.toInt 0 = 0 by decide)
            have bo652924' : gB o652924 0 0 := ⟨by omega, by omega⟩
            have x652928 : p651163.toInt < g652618.toInt := by first | omega | exact cLt_lt x651178 (by assumption) (isP_0 (by assumption) (by omega)) (by omega)
            refine G_aload_n 2 dr_cX14_word_240 rfl ?_
            refine G_aload_n 0 dr_cX14_word_241 rfl ?_
            refine Gw_callV (As := []) (gV_ok D I) (cp_641280_StringBuilder_toString l hl0 D I P652630 F652624 q651190 q652620 0 g652619 f652622 n652621 hm652633 hm652634 he652627 he652628 (gB_w (gBl (show Int32.toInt 0 = 0 by decide)) (by decide) (by decide)) bg652619 bf652622 (by have qa0 : Int32.toInt 0 = 0 := (by decide); have qa1 : Int32.toInt 6 = 6 := (by decide); omega) (by have qa0 : Int32.toInt 0 = 0 := (by decide); have qa1 : Int32.toInt 6 = 6 := (by decide); omega)) dr_cX14_word_242 ⟨wr_8_66, wr_1_20, wr_8_69, by decide, rfl, (Nat.le_of_ble_eq_true rfl), (Nat.le_of_ble_eq_true rfl)⟩ wr_8_67 wr_8_68 hm652633 he652627 rfl (show 2 + (g652619.toInt : Int).toNat + 0 + 2 ≤ ((16 * (p651162.toInt - p651163.toInt)).toNat) by first | omega | decide) (show 4 + 2 * n652621 + 0 + (g652619.toInt.toNat + 4) ≤ ((256 * (p651162.toInt - p651163.toInt)).toNat) by first | omega | decide) (Nat.le_of_ble_eq_true rfl) (fun r652932 w652933 dc652929 ds652930 hp652931 => ?_) (fun _ _ _ _ _ z => z.elim)
            obtain ⟨P652940, F652941, q652934, q652935, n652936, f652937, rfl, rfl, hsb652942, hfr652943, he652944, he652945, he652946, he652947, hm652948, hq652949, hm652950, hq652951, hdc, hds, bf652937, x652938, x652939⟩ := hp652931
            have hm652952 : q651160 ∈ P652940 := hsb652942 q651160 hm652631
            have hm652953 : q651161 ∈ P652940 := hsb652942 q651161 hm652632
            have hm652954 : q651190 ∈ P652940 := hsb652942 q651190 hm652633
            have hm652955 : q652620 ∈ P652940 := hsb652942 q652620 hm652634
            have hq652956 : q652934 ∉ P651158 := fun z => hq652949 (hsb652635 q652934 z)
            have hq652957 : q652935 ∉ P651158 := fun z => hq652951 (hsb652635 q652935 z)
            have hsb652958 : rSub P651158 P652940 := rSub_tr hsb652635 hsb652942
            have he652959 : F652941 q651160 = .inr (19, [.ref q651161, .int p651162, .int g652618, .int 6, .int p651165, .int p651166, .int p651167, .ref qo651168, .int p651169, .int p651170, .int p651171, .ref qo651172, .ref qo651173, .int p651174]) := (hfr652943 q651160 hm652631 nm_n).trans he652625
            have he652960 : F652941 q651161 = .inl (I .byte, 8192, .inl f651175) := (hfr652943 q651161 hm652632 nm_n).trans he652626
            have hfr652961 : rFr [q651160] P651158 F651159 F652941 := rFr_call hsb652635 hfr652629 hfr652943 (fun b hb hn => ⟨(nm_c (fun e => hn (e ▸ List.mem_cons_self)) nm_n), nm_n⟩)
            have hne652962 : q652620 ≠ q652935 := fun h => hq652951 (h ▸ hm652634)
            change G _ _ _ _ _ _ _ (.ref q652934 :: _) _ _ _
            refine G_widen (cs' := 2 + (g652619.toInt : Int).toNat + 0 + 2) (sl' := 4 + 2 * n652621 + 0 + (g652619.toInt.toNat + 4)) (by omega) (by omega) ?_
            have x652963 : (n652936 : Int) = g652618.toInt - p651163.toInt := by omega
            clear he651186 he651187 hfr651188 he651197 he651198 he651199 hm651200 hm651201 hm651202 hfr651204 hsb651205 hsb651214 hfr651215 he651216 he651217 hm651218 hq651219 hm651220 hm651221 hm651222 hq651223 hsb651224 he651225 he651226 hfr651227 bo652924 bo652924' hsb652942 hfr652943 hq652949 hq652951; try clear r651209; try clear w651210; try clear dc651206; try clear ds651207; try clear hp651208; try clear r652922; try clear w652923; try clear dc652919; try clear ds652920; try clear hp652921; try clear x652925; try clear r652927; try clear r652932; try clear w652933; try clear dc652929; try clear ds652930; try clear hp652931
            refine Gp_put 7 hm652952 he652959 dr_cX14_word_245 (gk_X14 D I) (Nat.le_of_ble_eq_true rfl) wr_9_43 rfl rfl rfl (Nat.le_of_ble_eq_true rfl) (fun F652964 e652965 n652966 => ?_)
            have he652967 : F652964 q651161 = .inl (I .byte, 8192, .inl f651175) := (n652966 q651161 (rn_ao he652960 he652959)).trans he652960
            have he652968 : F652964 q652934 = .inr (0, [.ref q652935, .int 0, .int 0, .int 0]) := (n652966 q652934 (fun h => hq652956 (h ▸ hmq651160))).trans he652944
            have he652969 : F652964 q651190 = .inr (1, [.ref q652620, .int 0, .int 0, .int g652619]) := (n652966 q651190 (fun h => hq651203 (h ▸ hmq651160))).trans he652945
            have he652970 : F652964 q652620 = .inl (I .byte, n652621, .inl f652622) := (n652966 q652620 (fun h => hq652623 (h ▸ hmq651160))).trans he652946
            have he652971 : F652964 q652935 = .inl (I .byte, n652936, .inl f652937) := (n652966 q652935 (fun h => hq652957 (h ▸ hmq651160))).trans he652947
            have he652972 : F652964 q651160 = .inr (19, [.ref q651161, .int p651162, .int g652618, .int 6, .int p651165, .int p651166, .int p651167, .ref q652934, .int p651169, .int p651170, .int p651171, .ref qo651172, .ref qo651173, .int p651174]) := e652965
            have hfr652973 : rFr [q651160] P651158 F651159 F652964 := rFr_put' List.mem_cons_self hfr652961 n652966
            refine G_widen (cs' := (4 + (g652618.toInt - p651163.toInt) : Int).toNat) (sl' := (40 + 5 * (g652618.toInt - p651163.toInt) : Int).toNat) (by omega) (by omega) ?_
            clear he652944 he652945 he652946 he652947 he652959 he652960 hfr652961
            refine G_ldcK (a := D.2 1000 34) dr_cX14_word_248 (fun _ _ _ h => gx_vk 34 rfl rfl h) ?_
            have hl34_652973 : (sb_34.length : Int) = 25 := rfl
            refine G_new [.null, .int 0, .int 0, .int 0] dr_cX14_word_250 (gk_J4 D I) wr_7_235 wr_7_44 wr_1_20 (gfs_J4) (show (4 + (g652618.toInt - p651163.toInt) : Int).toNat + 1 ≤ ((16 * (p651162.toInt - p651163.toInt)).toNat) by first | omega | decide) (show (40 + 5 * (g652618.toInt - p651163.toInt) : Int).toNat + 4 ≤ ((256 * (p651162.toInt - p651163.toInt)).toNat) by first | omega | decide) (fun q652975 => Gp_in (fun P652976 F652977 hq652978 hP652979 e652980 n652981 => ?_))
            refine G_widen (cs' := (4 + (g652618.toInt - p651163.toInt) : Int).toNat + 1) (sl' := (40 + 5 * (g652618.toInt - p651163.toInt) : Int).toNat + 4) (by omega) (by omega) ?_
            have he652982 : F652977 q651160 = .inr (19, [.ref q651161, .int p651162, .int g652618, .int 6, .int p651165, .int p651166, .int p651167, .ref q652934, .int p651169, .int p651170, .int p651171, .ref qo651172, .ref qo651173, .int p651174]) := (n652981 q651160 (fun h => hq652978 (h ▸ hm652952))).trans he652972
            have he652983 : F652977 q651161 = .inl (I .byte, 8192, .inl f651175) := (n652981 q651161 (fun h => hq652978 (h ▸ hm652953))).trans he652967
            have he652984 : F652977 q652934 = .inr (0, [.ref q652935, .int 0, .int 0, .int 0]) := (n652981 q652934 (fun h => hq652978 (h ▸ hm652948))).trans he652968
            have he652985 : F652977 q651190 = .inr (1, [.ref q652620, .int 0, .int 0, .int g652619]) := (n652981 q651190 (fun h => hq652978 (h ▸ hm652954))).trans he652969
            have he652986 : F652977 q652620 = .inl (I .byte, n652621, .inl f652622) := (n652981 q652620 (fun h => hq652978 (h ▸ hm652955))).trans he652970
            have he652987 : F652977 q652935 = .inl (I .byte, n652936, .inl f652937) := (n652981 q652935 (fun h => hq652978 (h ▸ hm652950))).trans he652971
            have he652988 : F652977 q652975 = .inr (1, [.null, .int 0, .int 0, .int 0]) := e652980
            have hm652989 : q651160 ∈ P652976 := (hP652979 q651160).mpr (Or.inl hm652952)
            have hm652990 : q651161 ∈ P652976 := (hP652979 q651161).mpr (Or.inl hm652953)
            have hm652991 : q651190 ∈ P652976 := (hP652979 q651190).mpr (Or.inl hm652954)
            have hm652992 : q652620 ∈ P652976 := (hP652979 q652620).mpr (Or.inl hm652955)
            have hm652993 : q652934 ∈ P652976 := (hP652979 q652934).mpr (Or.inl hm652948)
            have hm652994 : q652935 ∈ P652976 := (hP652979 q652935).mpr (Or.inl hm652950)
            have hm652995 : q652975 ∈ P652976 := (hP652979 q652975).mpr (Or.inr rfl)
            have hq652996 : q652975 ∉ P651158 := fun z => hq652978 (hsb652958 q652975 z)
            have hfr652997 : rFr [q651160] P651158 F651159 F652977 := rFr_new hsb652958 hq652978 hfr652973 n652981
            have hsb652998 : rSub P651158 P652976 := rSub_new hsb652958 hP652979
            have hne652999 : q651190 ≠ q652975 := fun h => hq652978 (h ▸ hm652954)
            refine G_dup dr_cX14_word_253 rfl ?_
            refine Gw_callI (As := []) (gV_ok D I) (cp_640525_StringBuilder_init l hl0 D I P652976 F652977 q652975 0 0 hm652995 he652988 (gB_w (gBl (show Int32.toInt 0 = 0 by decide)) (by decide) (by decide)) (gB_w (gBl (show Int32.toInt 0 = 0 by decide)) (by decide) (by decide))) dr_cX14_word_254 ⟨wr_7_236, wr_1_20, wr_7_47, by decide, rfl, (Nat.le_of_ble_eq_true rfl), (Nat.le_of_ble_eq_true rfl)⟩ wr_7_46 rfl (show (4 + (g652618.toInt - p651163.toInt) : Int).toNat + 1 + 1 ≤ ((16 * (p651162.toInt - p651163.toInt)).toNat) by first | omega | decide) (show (40 + 5 * (g652618.toInt - p651163.toInt) : Int).toNat + 4 + 16 ≤ ((256 * (p651162.toInt - p651163.toInt)).toNat) by first | omega | decide) (Nat.le_of_ble_eq_true rfl) (fun r653003 w653004 dc653000 ds653001 hp653002 => ?_)
            obtain ⟨P653006, F653007, q653005, rfl, rfl, hsb653008, hfr653009, he653010, he653011, hm653012, hq653013, hdc, hds⟩ := hp653002
            have hm653014 : q651160 ∈ P653006 := hsb653008 q651160 hm652989
            have hm653015 : q651161 ∈ P653006 := hsb653008 q651161 hm652990
            have hm653016 : q651190 ∈ P653006 := hsb653008 q651190 hm652991
            have hm653017 : q652620 ∈ P653006 := hsb653008 q652620 hm652992
            have hm653018 : q652934 ∈ P653006 := hsb653008 q652934 hm652993
            have hm653019 : q652935 ∈ P653006 := hsb653008 q652935 hm652994
            have hm653020 : q652975 ∈ P653006 := hsb653008 q652975 hm652995
            have hq653021 : q653005 ∉ P651158 := fun z => hq653013 (hsb652998 q653005 z)
            have hsb653022 : rSub P651158 P653006 := rSub_tr hsb652998 hsb653008
            have he653023 : F653007 q651160 = .inr (19, [.ref q651161, .int p651162, .int g652618, .int 6, .int p651165, .int p651166, .int p651167, .ref q652934, .int p651169, .int p651170, .int p651171, .ref qo651172, .ref qo651173, .int p651174]) := (hfr653009 q651160 hm652989 (nm_c (fun h => hq652996 (h ▸ hmq651160)) nm_n)).trans he652982
            have he653024 : F653007 q651161 = .inl (I .byte, 8192, .inl f651175) := (hfr653009 q651161 hm652990 (nm_c (fun h => hq652996 (h ▸ hmq651161)) nm_n)).trans he652983
            have he653025 : F653007 q652934 = .inr (0, [.ref q652935, .int 0, .int 0, .int 0]) := (hfr653009 q652934 hm652993 (nm_c (rn_oo he652984 he652988 (by decide)) nm_n)).trans he652984
            have he653026 : F653007 q651190 = .inr (1, [.ref q652620, .int 0, .int 0, .int g652619]) := (hfr653009 q651190 hm652991 (nm_c hne652999 nm_n)).trans he652985
            have he653027 : F653007 q652620 = .inl (I .byte, n652621, .inl f652622) := (hfr653009 q652620 hm652992 (nm_c (rn_ao he652986 he652988) nm_n)).trans he652986
            have he653028 : F653007 q652935 = .inl (I .byte, n652936, .inl f652937) := (hfr653009 q652935 hm652994 (nm_c (rn_ao he652987 he652988) nm_n)).trans he652987
            have hfr653029 : rFr [q651160] P651158 F651159 F653007 := rFr_call hsb652998 hfr652997 hfr653009 (fun b hb hn => ⟨(nm_c (fun e => hn (e ▸ List.mem_cons_self)) nm_n), (nm_c (fun e => hq652996 (e ▸ hb)) nm_n)⟩)
            have hne653030 : q652620 ≠ q653005 := fun h => hq653013 (h ▸ hm652992)
            have hne653031 : q652935 ≠ q653005 := fun h => hq653013 (h ▸ hm652994)
            change G _ _ _ _ _ _ _ _ _ _ _
            refine G_widen (cs' := (4 + (g652618.toInt - p651163.toInt) : Int).toNat + 1 + 1) (sl' := (40 + 5 * (g652618.toInt - p651163.toInt) : Int).toNat + 4 + 16) (by omega) (by omega) ?_
            refine G_ldcK (a := D.2 1000 35) dr_cX14_word_257 (fun _ _ _ h => gx_vk 35 rfl rfl h) ?_
            have hl35_653031 : (sb_35.length : Int) = 1 := rfl
            refine Gw_callV (As := [.ref (D.2 1000 35)]) (gV_ok D I) (cp_640822_StringBuilder_append l hl0 D I P653006 F653007 q652975 q653005 (D.2 1000 35) (D.2 1001 35) sb_35 0 0 (fun _ => 0) 16 hm653020 hm653012 he653010 he653011 (gx_sc 35 rfl rfl) (by omega) (by decide +kernel) (gB_w (gBl (show Int32.toInt 0 = 0 by decide)) (by decide) (by decide)) (gB_w (gBl (show Int32.toInt 0 = 0 by decide)) (by decide) (by decide)) (gF_w gF_0 (by decide) (by decide)) (by have qa0 : Int32.toInt 0 = 0 := (by decide); have qa1 : Int32.toInt 6 = 6 := (by decide); omega) (by have qa0 : Int32.toInt 0 = 0 := (by decide); have qa1 : Int32.toInt 6 = 6 := (by decide); omega)) dr_cX14_word_259 ⟨wr_8_195, wr_1_20, wr_8_143, by decide, rfl, (Nat.le_of_ble_eq_true rfl), (Nat.le_of_ble_eq_true rfl)⟩ wr_8_141 wr_8_142 hm653020 he653010 rfl (show (4 + (g652618.toInt - p651163.toInt) : Int).toNat + 1 + 1 + 0 ≤ ((16 * (p651162.toInt - p651163.toInt)).toNat) by first | omega | decide) (show (40 + 5 * (g652618.toInt - p651163.toInt) : Int).toNat + 4 + 16 + 0 ≤ ((256 * (p651162.toInt - p651163.toInt)).toNat) by first | omega | decide) (Nat.le_of_ble_eq_true rfl) (fun r653036 w653037 dc653033 ds653034 hp653035 => ?_) (fun _ _ _ _ _ z => z.elim)
            obtain ⟨F653043, o653038, f653039, rfl, rfl, hfr653045, he653046, he653047, hdc, hds, bo653038, bf653039, x653040, x653041, x653042⟩ := hp653035
            have he653048 : F653043 q651160 = .inr (19, [.ref q651161, .int p651162, .int g652618, .int 6, .int p651165, .int p651166, .int p651167, .ref q652934, .int p651169, .int p651170, .int p651171, .ref qo651172, .ref qo651173, .int p651174]) := (hfr653045 q651160 hm653014 (nm_c (fun h => hq652996 (h ▸ hmq651160)) (nm_c (fun h => hq653021 (h ▸ hmq651160)) nm_n))).trans he653023
            have he653049 : F653043 q651161 = .inl (I .byte, 8192, .inl f651175) := (hfr653045 q651161 hm653015 (nm_c (fun h => hq652996 (h ▸ hmq651161)) (nm_c (fun h => hq653021 (h ▸ hmq651161)) nm_n))).trans he653024
            have he653050 : F653043 q652934 = .inr (0, [.ref q652935, .int 0, .int 0, .int 0]) := (hfr653045 q652934 hm653018 (nm_c (rn_oo he653025 he653010 (by decide)) (nm_c (rn_oa he653025 he653011) nm_n))).trans he653025
            have he653051 : F653043 q651190 = .inr (1, [.ref q652620, .int 0, .int 0, .int g652619]) := (hfr653045 q651190 hm653016 (nm_c hne652999 (nm_c (rn_oa he653026 he653011) nm_n))).trans he653026
            have he653052 : F653043 q652620 = .inl (I .byte, n652621, .inl f652622) := (hfr653045 q652620 hm653017 (nm_c (rn_ao he653027 he653010) (nm_c hne653030 nm_n))).trans he653027
            have he653053 : F653043 q652935 = .inl (I .byte, n652936, .inl f652937) := (hfr653045 q652935 hm653019 (nm_c (rn_ao he653028 he653010) (nm_c hne653031 nm_n))).trans he653028
            have hfr653054 : rFr [q651160] P651158 F651159 F653043 := rFr_call hsb653022 hfr653029 hfr653045 (fun b hb hn => ⟨(nm_c (fun e => hn (e ▸ List.mem_cons_self)) nm_n), (nm_c (fun e => hq652996 (e ▸ hb)) (nm_c (fun e => hq653021 (e ▸ hb)) nm_n))⟩)
            rw [show Int32.toInt 0 = 0 from by decide] at x653040
            have bo653038' : gB o653038 1 1 := ⟨by omega, by omega⟩
            rw [show Int32.toInt 0 = 0 from by decide] at x653041
            rw [show Int32.toInt 0 = 0 from by decide] at x653042
            change G _ _ _ _ _ _ _ (.ref q652975 :: _) _ _ _
            refine G_widen (cs' := (4 + (g652618.toInt - p651163.toInt) : Int).toNat + 1 + 1 + 0) (sl' := (40 + 5 * (g652618.toInt - p651163.toInt) : Int).toNat + 4 + 16 + 0) (by omega) (by omega) ?_
            refine G_aload_n 2 dr_cX14_word_262 rfl ?_
            clear hm652948 hm652950 hm652952 hm652953 hm652954 hm652955 hsb652958 he652967 he652968 he652969 he652970 he652971 he652972 hfr652973 he652982 he652983 he652984 he652985 he652986 he652987 he652988 hm652989 hm652990 hm652991 hm652992 hm652993 hm652994 hm652995 hfr652997 hsb652998 hsb653008 hfr653009 he653010 he653011 hq653013 he653023 he653024 he653025 he653026 he653027 he653028 hfr653029 hfr653045 bo653038; try clear r653003; try clear w653004; try clear dc653000; try clear ds653001; try clear hp653002; try clear r653036; try clear w653037; try clear dc653033; try clear ds653034; try clear hp653035
            refine Gp_get 7 hm653014 he653048 dr_cX14_word_263 (gk_X14 D I) (Nat.le_of_ble_eq_true rfl) wr_9_43 rfl ?_
            refine Gw_callV (As := [.ref q652934]) (gV_ok D I) (cp_641017_StringBuilder_append l hl0 D I P653006 F653043 q652975 q652934 q653005 q652935 0 o653038 0 0 f653039 16 f652937 n652936 hm653020 hm653018 hm653012 hm653019 he653046 he653050 he653047 he653053 (Ne.symm hne653031) (gB_w (gBl (show Int32.toInt 0 = 0 by decide)) (by decide) (by decide)) (gB_w bo653038' (by decide) (by decide)) (gB_w (gBl (show Int32.toInt 0 = 0 by decide)) (by decide) (by decide)) bf653039 bf652937 (by have qa0 : Int32.toInt 0 = 0 := (by decide); have qa1 : Int32.toInt 6 = 6 := (by decide); omega) (by have qa0 : Int32.toInt 0 = 0 := (by decide); have qa1 : Int32.toInt 6 = 6 := (by decide); omega) (by have qa0 : Int32.toInt 0 = 0 := (by decide); have qa1 : Int32.toInt 6 = 6 := (by decide); omega) (by have qa0 : Int32.toInt 0 = 0 := (by decide); have qa1 : Int32.toInt 6 = 6 := (by decide); omega) (by have qa0 : Int32.toInt 0 = 0 := (by decide); have qa1 : Int32.toInt 6 = 6 := (by decide); omega)) dr_cX14_word_266 ⟨wr_8_195, wr_1_20, wr_8_143, by decide, rfl, (Nat.le_of_ble_eq_true rfl), (Nat.le_of_ble_eq_true rfl)⟩ wr_8_141 wr_8_142 hm653020 he653046 rfl (show (4 + (g652618.toInt - p651163.toInt) : Int).toNat + 1 + 1 + 0 + 1 ≤ ((16 * (p651162.toInt - p651163.toInt)).toNat) by first | omega | decide) (show (40 + 5 * (g652618.toInt - p651163.toInt) : Int).toNat + 4 + 16 + 0 + (4 * 16 + 4 + 2 * n652936) ≤ ((256 * (p651162.toInt - p651163.toInt)).toNat) by first | omega | decide) (Nat.le_of_ble_eq_true rfl) (fun r653058 w653059 dc653055 ds653056 hp653057 => ?_) (fun _ _ _ _ _ z => z.elim)
            obtain ⟨P653068, F653069, o653060, q653061, n653062, f653063, rfl, rfl, hsb653070, hfr653071, he653072, he653073, he653074, he653075, hm653076, hq653077, hdc, hds, bo653060, bf653063, x653064, x653065, x653066, x653067⟩ := hp653057
            have hm653078 : q651160 ∈ P653068 := hsb653070 q651160 hm653014
            have hm653079 : q651161 ∈ P653068 := hsb653070 q651161 hm653015
            have hm653080 : q651190 ∈ P653068 := hsb653070 q651190 hm653016
            have hm653081 : q652620 ∈ P653068 := hsb653070 q652620 hm653017
            have hm653082 : q652934 ∈ P653068 := hsb653070 q652934 hm653018
            have hm653083 : q652935 ∈ P653068 := hsb653070 q652935 hm653019
            have hm653084 : q652975 ∈ P653068 := hsb653070 q652975 hm653020
            have hm653085 : q653005 ∈ P653068 := hsb653070 q653005 hm653012
            have hq653086 : q653061 ∉ P651158 := fun z => hq653077.elim (fun e => hq653021 (e ▸ z)) (fun n => n (hsb653022 _ z))
            have hsb653087 : rSub P651158 P653068 := rSub_tr hsb653022 hsb653070
            have he653088 : F653069 q651160 = .inr (19, [.ref q651161, .int p651162, .int g652618, .int 6, .int p651165, .int p651166, .int p651167, .ref q652934, .int p651169, .int p651170, .int p651171, .ref qo651172, .ref qo651173, .int p651174]) := (hfr653071 q651160 hm653014 (nm_c (fun h => hq652996 (h ▸ hmq651160)) (nm_c (fun h => hq653021 (h ▸ hmq651160)) nm_n))).trans he653048
            have he653089 : F653069 q651161 = .inl (I .byte, 8192, .inl f651175) := (hfr653071 q651161 hm653015 (nm_c (fun h => hq652996 (h ▸ hmq651161)) (nm_c (fun h => hq653021 (h ▸ hmq651161)) nm_n))).trans he653049
            have he653090 : F653069 q651190 = .inr (1, [.ref q652620, .int 0, .int 0, .int g652619]) := (hfr653071 q651190 hm653016 (nm_c hne652999 (nm_c (rn_oa he653051 he653047) nm_n))).trans he653051
            have he653091 : F653069 q652620 = .inl (I .byte, n652621, .inl f652622) := (hfr653071 q652620 hm653017 (nm_c (rn_ao he653052 he653046) (nm_c hne653030 nm_n))).trans he653052
            have hfr653092 : rFr [q651160] P651158 F651159 F653069 := rFr_call hsb653022 hfr653054 hfr653071 (fun b hb hn => ⟨(nm_c (fun e => hn (e ▸ List.mem_cons_self)) nm_n), (nm_c (fun e => hq652996 (e ▸ hb)) (nm_c (fun e => hq653021 (e ▸ hb)) nm_n))⟩)
            have hne653093 : q652620 ≠ q653061 := fun e => hq653077.elim (fun e2 => hne653030 (e.trans e2)) (fun n => n (e ▸ hm653017))
            have hne653094 : q652935 ≠ q653061 := fun e => hq653077.elim (fun e2 => hne653031 (e.trans e2)) (fun n => n (e ▸ hm653019))
            have bo653060' : gB o653060 1 16777216 := ⟨by omega, by omega⟩
            change G _ _ _ _ _ _ _ (.ref q652975 :: _) _ _ _
            refine G_widen (cs' := (4 + (g652618.toInt - p651163.toInt) : Int).toNat + 1 + 1 + 0 + 1) (sl' := (40 + 5 * (g652618.toInt - p651163.toInt) : Int).toNat + 4 + 16 + 0 + (2 * (n653062 - 16))) (by omega) (by omega) ?_
            refine G_widen (cs' := (7 + (g652618.toInt - p651163.toInt) : Int).toNat) (sl' := (98 + 7 * (g652618.toInt - p651163.toInt) : Int).toNat) (by omega) (by omega) ?_
            clear hm653012 hm653014 hm653015 hm653016 hm653017 hm653018 hm653019 hm653020 hq653021 hsb653022 hne653030 hne653031 he653046 he653047 bf653039 he653048 he653049 he653050 he653051 he653052 he653053 hfr653054 hsb653070 hfr653071 hq653077 bo653060 hm653085; try clear x653041; try clear x653042; try clear r653058; try clear w653059; try clear dc653055; try clear ds653056; try clear hp653057
            refine G_ldcK (a := D.2 1000 35) dr_cX14_word_269 (fun _ _ _ h => gx_vk 35 rfl rfl h) ?_
            have hl35_653094 : (sb_35.length : Int) = 1 := rfl
            refine Gw_callV (As := [.ref (D.2 1000 35)]) (gV_ok D I) (cp_641160_StringBuilder_append l hl0 D I P653068 F653069 q652975 q653061 (D.2 1000 35) (D.2 1001 35) sb_35 0 o653060 f653063 n653062 hm653084 hm653076 he653072 he653074 (gx_sc 35 rfl rfl) (by omega) (by decide +kernel) (gB_w (gBl (show Int32.toInt 0 = 0 by decide)) (by decide) (by decide)) (gB_w bo653060' (by decide) (by decide)) bf653063 (by have qa0 : Int32.toInt 0 = 0 := (by decide); have qa1 : Int32.toInt 6 = 6 := (by decide); omega) (by have qa0 : Int32.toInt 0 = 0 := (by decide); have qa1 : Int32.toInt 6 = 6 := (by decide); omega) (by have qa0 : Int32.toInt 0 = 0 := (by decide); have qa1 : Int32.toInt 6 = 6 := (by decide); omega) (by have qa0 : Int32.toInt 0 = 0 := (by decide); have qa1 : Int32.toInt 6 = 6 := (by decide); omega)) dr_cX14_word_271 ⟨wr_8_195, wr_1_20, wr_8_143, by decide, rfl, (Nat.le_of_ble_eq_true rfl), (Nat.le_of_ble_eq_true rfl)⟩ wr_8_141 wr_8_142 hm653084 he653072 rfl (show (7 + (g652618.toInt - p651163.toInt) : Int).toNat + 1 ≤ ((16 * (p651162.toInt - p651163.toInt)).toNat) by first | omega | decide) (show (98 + 7 * (g652618.toInt - p651163.toInt) : Int).toNat + (4 * n653062 + 4 + 2 * sb_35.length) ≤ ((256 * (p651162.toInt - p651163.toInt)).toNat) by first | omega | decide) (Nat.le_of_ble_eq_true rfl) (fun r653099 w653100 dc653096 ds653097 hp653098 => ?_) (fun _ _ _ _ _ z => z.elim)
            obtain ⟨P653109, F653110, o653101, q653102, n653103, f653104, rfl, rfl, hsb653111, hfr653112, he653113, he653114, hm653115, hq653116, hdc, hds, bo653101, bf653104, x653105, x653106, x653107, x653108⟩ := hp653098
            have hm653117 : q651160 ∈ P653109 := hsb653111 q651160 hm653078
            have hm653118 : q651161 ∈ P653109 := hsb653111 q651161 hm653079
            have hm653119 : q651190 ∈ P653109 := hsb653111 q651190 hm653080
            have hm653120 : q652620 ∈ P653109 := hsb653111 q652620 hm653081
            have hm653121 : q652934 ∈ P653109 := hsb653111 q652934 hm653082
            have hm653122 : q652935 ∈ P653109 := hsb653111 q652935 hm653083
            have hm653123 : q652975 ∈ P653109 := hsb653111 q652975 hm653084
            have hm653124 : q653061 ∈ P653109 := hsb653111 q653061 hm653076
            have hq653125 : q653102 ∉ P651158 := fun z => hq653116.elim (fun e => hq653086 (e ▸ z)) (fun n => n (hsb653087 _ z))
            have hsb653126 : rSub P651158 P653109 := rSub_tr hsb653087 hsb653111
            have he653127 : F653110 q651160 = .inr (19, [.ref q651161, .int p651162, .int g652618, .int 6, .int p651165, .int p651166, .int p651167, .ref q652934, .int p651169, .int p651170, .int p651171, .ref qo651172, .ref qo651173, .int p651174]) := (hfr653112 q651160 hm653078 (nm_c (fun h => hq652996 (h ▸ hmq651160)) (nm_c (fun h => hq653086 (h ▸ hmq651160)) nm_n))).trans he653088
            have he653128 : F653110 q651161 = .inl (I .byte, 8192, .inl f651175) := (hfr653112 q651161 hm653079 (nm_c (fun h => hq652996 (h ▸ hmq651161)) (nm_c (fun h => hq653086 (h ▸ hmq651161)) nm_n))).trans he653089
            have he653129 : F653110 q651190 = .inr (1, [.ref q652620, .int 0, .int 0, .int g652619]) := (hfr653112 q651190 hm653080 (nm_c hne652999 (nm_c (rn_oa he653090 he653074) nm_n))).trans he653090
            have he653130 : F653110 q652620 = .inl (I .byte, n652621, .inl f652622) := (hfr653112 q652620 hm653081 (nm_c (rn_ao he653091 he653072) (nm_c hne653093 nm_n))).trans he653091
            have he653131 : F653110 q652934 = .inr (0, [.ref q652935, .int 0, .int 0, .int 0]) := (hfr653112 q652934 hm653082 (nm_c (rn_oo he653073 he653072 (by decide)) (nm_c (rn_oa he653073 he653074) nm_n))).trans he653073
            have he653132 : F653110 q652935 = .inl (I .byte, n652936, .inl f652937) := (hfr653112 q652935 hm653083 (nm_c (rn_ao he653075 he653072) (nm_c hne653094 nm_n))).trans he653075
            have hfr653133 : rFr [q651160] P651158 F651159 F653110 := rFr_call hsb653087 hfr653092 hfr653112 (fun b hb hn => ⟨(nm_c (fun e => hn (e ▸ List.mem_cons_self)) nm_n), (nm_c (fun e => hq652996 (e ▸ hb)) (nm_c (fun e => hq653086 (e ▸ hb)) nm_n))⟩)
            have hne653134 : q652620 ≠ q653102 := fun e => hq653116.elim (fun e2 => hne653093 (e.trans e2)) (fun n => n (e ▸ hm653081))
            have hne653135 : q652935 ≠ q653102 := fun e => hq653116.elim (fun e2 => hne653094 (e.trans e2)) (fun n => n (e ▸ hm653083))
            have bo653101' : gB o653101 2 16777216 := ⟨by omega, by omega⟩
            change G _ _ _ _ _ _ _ (.ref q652975 :: _) _ _ _
            refine G_widen (cs' := (7 + (g652618.toInt - p651163.toInt) : Int).toNat + 1) (sl' := (98 + 7 * (g652618.toInt - p651163.toInt) : Int).toNat + (2 * (n653103 - n653062))) (by omega) (by omega) ?_
            refine G_widen (cs' := (8 + (g652618.toInt - p651163.toInt) : Int).toNat) (sl' := (214 + 13 * (g652618.toInt - p651163.toInt) : Int).toNat) (by omega) (by omega) ?_
            clear he653072 he653073 he653074 he653075 hm653076 bf653063 hm653078 hm653079 hm653080 hm653081 hm653082 hm653083 hm653084 hq653086 hsb653087 he653088 he653089 he653090 he653091 hfr653092 hne653093 hne653094 hsb653111 hfr653112 hq653116 bo653101 hm653124; try clear r653099; try clear w653100; try clear dc653096; try clear ds653097; try clear hp653098
            refine Gw_callV (As := []) (gV_ok D I) (cp_641280_StringBuilder_toString l hl0 D I P653109 F653110 q652975 q653102 0 o653101 f653104 n653103 hm653123 hm653115 he653113 he653114 (gB_w (gBl (show Int32.toInt 0 = 0 by decide)) (by decide) (by decide)) (gB_w bo653101' (by decide) (by decide)) bf653104 (by have qa0 : Int32.toInt 0 = 0 := (by decide); have qa1 : Int32.toInt 6 = 6 := (by decide); omega) (by have qa0 : Int32.toInt 0 = 0 := (by decide); have qa1 : Int32.toInt 6 = 6 := (by decide); omega)) dr_cX14_word_274 ⟨wr_8_66, wr_1_20, wr_8_69, by decide, rfl, (Nat.le_of_ble_eq_true rfl), (Nat.le_of_ble_eq_true rfl)⟩ wr_8_67 wr_8_68 hm653123 he653113 rfl (show (8 + (g652618.toInt - p651163.toInt) : Int).toNat + 2 ≤ ((16 * (p651162.toInt - p651163.toInt)).toNat) by first | omega | decide) (show (214 + 13 * (g652618.toInt - p651163.toInt) : Int).toNat + (o653101.toInt.toNat + 4) ≤ ((256 * (p651162.toInt - p651163.toInt)).toNat) by first | omega | decide) (Nat.le_of_ble_eq_true rfl) (fun r653139 w653140 dc653136 ds653137 hp653138 => ?_) (fun _ _ _ _ _ z => z.elim)
            obtain ⟨P653147, F653148, q653141, q653142, n653143, f653144, rfl, rfl, hsb653149, hfr653150, he653151, he653152, he653153, he653154, hm653155, hq653156, hm653157, hq653158, hdc, hds, bf653144, x653145, x653146⟩ := hp653138
            have hm653159 : q651160 ∈ P653147 := hsb653149 q651160 hm653117
            have hm653160 : q651161 ∈ P653147 := hsb653149 q651161 hm653118
            have hm653161 : q651190 ∈ P653147 := hsb653149 q651190 hm653119
            have hm653162 : q652620 ∈ P653147 := hsb653149 q652620 hm653120
            have hm653163 : q652934 ∈ P653147 := hsb653149 q652934 hm653121
            have hm653164 : q652935 ∈ P653147 := hsb653149 q652935 hm653122
            have hm653165 : q652975 ∈ P653147 := hsb653149 q652975 hm653123
            have hm653166 : q653102 ∈ P653147 := hsb653149 q653102 hm653115
            have hq653167 : q653141 ∉ P651158 := fun z => hq653156 (hsb653126 q653141 z)
            have hq653168 : q653142 ∉ P651158 := fun z => hq653158 (hsb653126 q653142 z)
            have hsb653169 : rSub P651158 P653147 := rSub_tr hsb653126 hsb653149
            have he653170 : F653148 q651160 = .inr (19, [.ref q651161, .int p651162, .int g652618, .int 6, .int p651165, .int p651166, .int p651167, .ref q652934, .int p651169, .int p651170, .int p651171, .ref qo651172, .ref qo651173, .int p651174]) := (hfr653150 q651160 hm653117 nm_n).trans he653127
            have he653171 : F653148 q651161 = .inl (I .byte, 8192, .inl f651175) := (hfr653150 q651161 hm653118 nm_n).trans he653128
            have he653172 : F653148 q651190 = .inr (1, [.ref q652620, .int 0, .int 0, .int g652619]) := (hfr653150 q651190 hm653119 nm_n).trans he653129
            have he653173 : F653148 q652620 = .inl (I .byte, n652621, .inl f652622) := (hfr653150 q652620 hm653120 nm_n).trans he653130
            have he653174 : F653148 q652934 = .inr (0, [.ref q652935, .int 0, .int 0, .int 0]) := (hfr653150 q652934 hm653121 nm_n).trans he653131
            have he653175 : F653148 q652935 = .inl (I .byte, n652936, .inl f652937) := (hfr653150 q652935 hm653122 nm_n).trans he653132
            have hfr653176 : rFr [q651160] P651158 F651159 F653148 := rFr_call hsb653126 hfr653133 hfr653150 (fun b hb hn => ⟨(nm_c (fun e => hn (e ▸ List.mem_cons_self)) nm_n), nm_n⟩)
            have hne653177 : q652934 ≠ q653141 := fun h => hq653156 (h ▸ hm653121)
            have hne653178 : q652620 ≠ q653142 := fun h => hq653158 (h ▸ hm653120)
            have hne653179 : q652935 ≠ q653142 := fun h => hq653158 (h ▸ hm653122)
            have hne653180 : q653102 ≠ q653142 := fun h => hq653158 (h ▸ hm653115)
            change G _ _ _ _ _ _ _ (.ref q653141 :: _) _ _ _
            refine G_widen (cs' := (8 + (g652618.toInt - p651163.toInt) : Int).toNat + 2) (sl' := (214 + 13 * (g652618.toInt - p651163.toInt) : Int).toNat + (o653101.toInt.toNat + 4)) (by omega) (by omega) ?_
            refine G_widen (cs' := (10 + (g652618.toInt - p651163.toInt) : Int).toNat) (sl' := (220 + 14 * (g652618.toInt - p651163.toInt) : Int).toNat) (by omega) (by omega) ?_
            clear hq652996 hne652999 he653113 he653114 hm653115 bf653104 hm653117 hm653118 hm653119 hm653120 hm653121 hm653122 hm653123 hq653125 hsb653126 he653127 he653128 he653129 he653130 he653131 he653132 hfr653133 hne653134 hne653135 hsb653149 hfr653150 he653152 he653153 hq653156 hq653158 hm653165 hm653166 hne653180; try clear r653139; try clear w653140; try clear dc653136; try clear ds653137; try clear hp653138; try clear x653146
            refine Gw_callVk (As := [.ref q653141]) (gV_ok D I) (cp_641729_String_indexOf l hl0 D I P653147 F653148 q653141 q653142 (D.2 1000 34) (D.2 1001 34) sb_34 0 0 f653144 n653143 hm653155 hm653157 he653151 he653154 (gx_sc 34 rfl rfl) (by omega) (by decide +kernel) (gB_w (gBl (show Int32.toInt 0 = 0 by decide)) (by decide) (by decide)) bf653144 (by have qa0 : Int32.toInt 0 = 0 := (by decide); have qa1 : Int32.toInt 6 = 6 := (by decide); omega) (by have qa0 : Int32.toInt 0 = 0 := (by decide); have qa1 : Int32.toInt 6 = 6 := (by decide); omega)) dr_cX14_word_277 ⟨wr_8_196, wr_1_21, wr_8_199, by decide, rfl, (Nat.le_of_ble_eq_true rfl), (Nat.le_of_ble_eq_true rfl)⟩ wr_8_197 wr_8_198 (fun _ _ _ h => ((gx_sc 34 rfl rfl) _ _ _ h).1) (show (10 + (g652618.toInt - p651163.toInt) : Int).toNat + 0 ≤ ((16 * (p651162.toInt - p651163.toInt)).toNat) by first | omega | decide) (show (220 + 14 * (g652618.toInt - p651163.toInt) : Int).toNat + 0 ≤ ((256 * (p651162.toInt - p651163.toInt)).toNat) by first | omega | decide) (Nat.le_of_ble_eq_true rfl) (fun r653184 w653185 dc653181 ds653182 hp653183 => ?_) (fun _ _ _ _ _ z => z.elim)
            obtain ⟨o653186, rfl, rfl, hdc, hds, bo653186, x653187, x653188⟩ := hp653183
            change G _ _ _ _ _ _ _ (.int o653186 :: _) _ _ _
            refine G_widen (cs' := (10 + (g652618.toInt - p651163.toInt) : Int).toNat + 0) (sl' := (220 + 14 * (g652618.toInt - p651163.toInt) : Int).toNat + 0) (by omega) (by omega) ?_
            clear he653151 he653154 hm653155 hm653157 bf653144 hq653167 hq653168 hne653177 hne653178 hne653179; try clear r653184; try clear w653185; try clear dc653181; try clear ds653182; try clear hp653183; try clear x653188
            refine G_if_lt 288 dr_cX14_word_280 (by decide +kernel) (fun hc653189 => ?_) (fun hc653189 => ?_)
            · have r653190 : o653186.toInt < 0 := gj_lt hc653189 (show Int32.toInt 0 = 0 by decide)
              have bo653186' : gB o653186 (-2147483646) (-1) := ⟨by omega, by omega⟩
              exact G_vretA dr_cX14_word_288 rfl (show (10 + (g652618.toInt - p651163.toInt) : Int).toNat + 0 ≤ ((16 * (p651162.toInt - p651163.toInt)).toNat) by omega) (show (220 + 14 * (g652618.toInt - p651163.toInt) : Int).toNat + 0 ≤ ((256 * (p651162.toInt - p651163.toInt)).toNat) by omega) ⟨P653147, F653148, g652618, 6, p651166, q652934, rfl, rfl, hsb653169, hfr653176, he653170, he653171, (by omega), (by omega), (gB_w bg652618' (by decide) (by decide)), (gB_w (gBl (show Int32.toInt 6 = 6 by decide)) (by decide) (by decide)), (by have qa0 : Int32.toInt 0 = 0 := (by decide); have qa1 : Int32.toInt 6 = 6 := (by decide); omega), (by have qa0 : Int32.toInt 0 = 0 := (by decide); have qa1 : Int32.toInt 6 = 6 := (by decide); omega), (tP_no (by decide) (by decide)), (vP_no (by decide) (by decide))⟩
            · have r653191 : 0 ≤ o653186.toInt := gj_nlt hc653189 (show Int32.toInt 0 = 0 by decide)
              have bo653186' : gB o653186 0 16777215 := ⟨by omega, by omega⟩
              refine G_aload_n 2 dr_cX14_word_283 rfl ?_
              refine G_iconst 1 dr_cX14_word_284 (by decide +kernel) ?_
              refine Gp_put 3 hm653159 he653170 dr_cX14_word_285 (gk_X14 D I) (Nat.le_of_ble_eq_true rfl) wr_9_39 rfl rfl rfl (Nat.le_of_ble_eq_true rfl) (fun F653192 e653193 n653194 => ?_)
              have he653195 : F653192 q651161 = .inl (I .byte, 8192, .inl f651175) := (n653194 q651161 (rn_ao he653171 he653170)).trans he653171
              have he653196 : F653192 q651190 = .inr (1, [.ref q652620, .int 0, .int 0, .int g652619]) := (n653194 q651190 (fun h => hq651203 (h ▸ hmq651160))).trans he653172
              have he653197 : F653192 q652620 = .inl (I .byte, n652621, .inl f652622) := (n653194 q652620 (fun h => hq652623 (h ▸ hmq651160))).trans he653173
              have he653198 : F653192 q652934 = .inr (0, [.ref q652935, .int 0, .int 0, .int 0]) := (n653194 q652934 (fun h => hq652956 (h ▸ hmq651160))).trans he653174
              have he653199 : F653192 q652935 = .inl (I .byte, n652936, .inl f652937) := (n653194 q652935 (fun h => hq652957 (h ▸ hmq651160))).trans he653175
              have he653200 : F653192 q651160 = .inr (19, [.ref q651161, .int p651162, .int g652618, .int 1, .int p651165, .int p651166, .int p651167, .ref q652934, .int p651169, .int p651170, .int p651171, .ref qo651172, .ref qo651173, .int p651174]) := e653193
              have hfr653201 : rFr [q651160] P651158 F651159 F653192 := rFr_put' List.mem_cons_self hfr653176 n653194
              exact G_vretA dr_cX14_word_288 rfl (show (10 + (g652618.toInt - p651163.toInt) : Int).toNat + 0 ≤ ((16 * (p651162.toInt - p651163.toInt)).toNat) by omega) (show (220 + 14 * (g652618.toInt - p651163.toInt) : Int).toNat + 0 ≤ ((256 * (p651162.toInt - p651163.toInt)).toNat) by omega) ⟨P653147, F653192, g652618, 1, p651166, q652934, rfl, rfl, hsb653169, hfr653201, he653200, he653195, (by omega), (by omega), (gB_w bg652618' (by decide) (by decide)), (gB_w (gBl (show Int32.toInt 1 = 1 by decide)) (by decide) (by decide)), (by have qa0 : Int32.toInt 0 = 0 := (by decide); have qa1 : Int32.toInt 1 = 1 := (by decide); omega), (by have qa0 : Int32.toInt 0 = 0 := (by decide); have qa1 : Int32.toInt 1 = 1 := (by decide); omega), (tP_1 hm653163 he653198 hm653164 he653199 bf652937 (by omega) (gB_w (gBl (show Int32.toInt 0 = 0 by decide)) (by decide) (by decide)) (fun e => hq652957 (e ▸ x651179)) (fun e => hq652957 (e ▸ x651180))), (vP_no (by decide) (by decide))⟩
          · have r653202 : o652924.toInt ≠ 0 := gj_neq hc652926 (show Int32.toInt 0 = 0 by decide)
            have bo652924' : gB o652924 1 1 := ⟨by omega, by omega⟩
            have bi653203 : gB z652918 97 122 := isP_1 x652925 (by omega)
            refine G_aload_n 0 dr_cX14_word_212 rfl ?_
            refine G_aload_n 2 dr_cX14_word_213 rfl ?_
            refine Gp_get 0 hm652631 he652625 dr_cX14_word_214 (gk_X14 D I) (Nat.le_of_ble_eq_true rfl) wr_9_36 rfl ?_
            refine G_aload_n 2 dr_cX14_word_217 rfl ?_
            refine Gp_get 2 hm652631 he652625 dr_cX14_word_218 (gk_X14 D I) (Nat.le_of_ble_eq_true rfl) wr_9_38 rfl ?_
            refine Gp_bald 1 hm652632 he652626 dr_cX14_word_221 rfl (gB_in bg652618' (by decide) (by decide)) (G_eqi (y := z652918) hz652918.symm ?_)
            refine G_i2c dr_cX14_word_222 (G_nam fun z653204 hz653204 => ?_)
            have ez653204 : z653204.toInt = z652918.toInt := gI_i2c hz653204 (by omega) (by omega)
            have bz653204 : gB z653204 97 122 := ⟨by omega, by omega⟩
            refine Gw_callV (As := [.int z653204]) (gV_ok D I) (cp_651831_StringBuilder_append l hl0 D I P652630 F652624 q651190 q652620 z653204 0 g652619 f652622 n652621 hm652633 hm652634 he652627 he652628 (gB_w bz653204 (by decide) (by decide)) (gB_w (gBl (show Int32.toInt 0 = 0 by decide)) (by decide) (by decide)) bg652619 bf652622 (by have qa0 : Int32.toInt 0 = 0 := (by decide); have qa1 : Int32.toInt 6 = 6 := (by decide); omega) (by have qa0 : Int32.toInt 0 = 0 := (by decide); have qa1 : Int32.toInt 6 = 6 := (by decide); omega) (by have qa0 : Int32.toInt 0 = 0 := (by decide); have qa1 : Int32.toInt 6 = 6 := (by decide); omega) (by have qa0 : Int32.toInt 0 = 0 := (by decide); have qa1 : Int32.toInt 6 = 6 := (by decide); omega)) dr_cX14_word_223 ⟨wr_7_237, wr_1_20, wr_8_0, by decide, rfl, (Nat.le_of_ble_eq_true rfl), (Nat.le_of_ble_eq_true rfl)⟩ wr_7_238 wr_7_239 hm652633 he652627 rfl (show 2 + (g652619.toInt : Int).toNat + 0 + 1 ≤ ((16 * (p651162.toInt - p651163.toInt)).toNat) by first | omega | decide) (show 4 + 2 * n652621 + 0 + (4 * n652621 + 8) ≤ ((256 * (p651162.toInt - p651163.toInt)).toNat) by first | omega | decide) (Nat.le_of_ble_eq_true rfl) (fun r653208 w653209 dc653205 ds653206 hp653207 => ?_) (fun _ _ _ _ _ z => z.elim)
            obtain ⟨P653219, F653220, o653210, q653211, n653212, f653213, rfl, rfl, hsb653221, hfr653222, he653223, he653224, hm653225, hq653226, hdc, hds, bo653210, bf653213, x653214, x653215, x653216, x653217, x653218⟩ := hp653207
            have hm653227 : q651160 ∈ P653219 := hsb653221 q651160 hm652631
            have hm653228 : q651161 ∈ P653219 := hsb653221 q651161 hm652632
            have hm653229 : q651190 ∈ P653219 := hsb653221 q651190 hm652633
            have hm653230 : q652620 ∈ P653219 := hsb653221 q652620 hm652634
            have hq653231 : q653211 ∉ P651158 := fun z => hq653226.elim (fun e => hq652623 (e ▸ z)) (fun n => n (hsb652635 _ z))
            have hsb653232 : rSub P651158 P653219 := rSub_tr hsb652635 hsb653221
            have he653233 : F653220 q651160 = .inr (19, [.ref q651161, .int p651162, .int g652618, .int 6, .int p651165, .int p651166, .int p651167, .ref qo651168, .int p651169, .int p651170, .int p651171, .ref qo651172, .ref qo651173, .int p651174]) := (hfr653222 q651160 hm652631 (nm_c (fun h => hq652623 (h ▸ hmq651160)) (nm_c (fun h => hq651203 (h ▸ hmq651160)) nm_n))).trans he652625
            have he653234 : F653220 q651161 = .inl (I .byte, 8192, .inl f651175) := (hfr653222 q651161 hm652632 (nm_c (fun h => hq652623 (h ▸ hmq651161)) (nm_c (fun h => hq651203 (h ▸ hmq651161)) nm_n))).trans he652626
            have hfr653235 : rFr [q651160] P651158 F651159 F653220 := rFr_call hsb652635 hfr652629 hfr653222 (fun b hb hn => ⟨(nm_c (fun e => hn (e ▸ List.mem_cons_self)) nm_n), (nm_c (fun e => hq652623 (e ▸ hb)) (nm_c (fun e => hq651203 (e ▸ hb)) nm_n))⟩)
            change G _ _ _ _ _ _ _ (.ref q651190 :: _) _ _ _
            refine G_widen (cs' := 2 + (g652619.toInt : Int).toNat + 0 + 1) (sl' := 4 + 2 * n652621 + 0 + (2 * (n653212 - n652621))) (by omega) (by omega) ?_
            refine G_pop dr_cX14_word_226 rfl ?_
            refine G_aload_n 2 dr_cX14_word_227 rfl ?_
            refine G_dup dr_cX14_word_228 rfl ?_
            refine Gp_get 2 hm653227 he653233 dr_cX14_word_229 (gk_X14 D I) (Nat.le_of_ble_eq_true rfl) wr_9_38 rfl ?_
            refine G_iconst 1 dr_cX14_word_232 (by decide +kernel) ?_
            refine G_iadd dr_cX14_word_233 (G_nam fun z653236 hz653236 => ?_)
            have ez653236 : z653236.toInt = g652618.toInt + 1 := by rw [gI_add hz653236 bg652618' (gBl (show Int32.toInt 1 = 1 by decide)) (by decide) (by decide), show Int32.toInt 1 = 1 from by decide]
            have bz653236 : gB z653236 1 8192 := gB_add (gI_add hz653236 bg652618' (gBl (show Int32.toInt 1 = 1 by decide)) (by decide) (by decide)) bg652618' (gBl (show Int32.toInt 1 = 1 by decide)) (by decide) (by decide)
            refine Gp_put 2 hm653227 he653233 dr_cX14_word_234 (gk_X14 D I) (Nat.le_of_ble_eq_true rfl) wr_9_38 rfl rfl rfl (Nat.le_of_ble_eq_true rfl) (fun F653237 e653238 n653239 => ?_)
            have he653240 : F653237 q651161 = .inl (I .byte, 8192, .inl f651175) := (n653239 q651161 (rn_ao he653234 he653233)).trans he653234
            have he653241 : F653237 q651190 = .inr (1, [.ref q653211, .int 0, .int 0, .int o653210]) := (n653239 q651190 (fun h => hq651203 (h ▸ hmq651160))).trans he653223
            have he653242 : F653237 q653211 = .inl (I .byte, n653212, .inl f653213) := (n653239 q653211 (fun h => hq653231 (h ▸ hmq651160))).trans he653224
            have he653243 : F653237 q651160 = .inr (19, [.ref q651161, .int p651162, .int z653236, .int 6, .int p651165, .int p651166, .int p651167, .ref qo651168, .int p651169, .int p651170, .int p651171, .ref qo651172, .ref qo651173, .int p651174]) := e653238
            have hfr653244 : rFr [q651160] P651158 F651159 F653237 := rFr_put' List.mem_cons_self hfr653235 n653239
            refine G_goto 186 dr_cX14_word_237 (by decide +kernel) ?_
            refine G_widen (cs' := 2 + (o653210.toInt : Int).toNat) (sl' := 4 + 2 * n653212) (by omega) (by omega) ?_
            exact ih186_652640 P653219 F653237 z653236 o653210 q653211 n653212 f653213 (gB_w bz653236 (by decide) (by decide)) (gB_w bo653210 (by decide) (by decide)) bf653213 hsb653232 hfr653244 hm653227 he653243 hm653228 he653240 hm653229 he653241 hm653225 he653242 hq653231 (by have qa0 : Int32.toInt 0 = 0 := (by decide); have qa1 : Int32.toInt 6 = 6 := (by decide); omega) (by have qa0 : Int32.toInt 0 = 0 := (by decide); have qa1 : Int32.toInt 6 = 6 := (by decide); omega) (by have qa0 : Int32.toInt 0 = 0 := (by decide); have qa1 : Int32.toInt 6 = 6 := (by decide); omega) (by have qa0 : Int32.toInt 0 = 0 := (by decide); have qa1 : Int32.toInt 6 = 6 := (by decide); omega) (by have qa0 : Int32.toInt 0 = 0 := (by decide); have qa1 : Int32.toInt 6 = 6 := (by decide); omega) (by have qa0 : Int32.toInt 0 = 0 := (by decide); have qa1 : Int32.toInt 6 = 6 := (by decide); omega)
    exact hlp186_652640 (((8193 : Int) - p651163.toInt).toNat + 1) P651212 F651213 p651163 0 q651211 16 (fun _ => 0) bp651163 (gB_w (gBl (show Int32.toInt 0 = 0 by decide)) (by decide) (by decide)) (gF_w gF_0 (by decide) (by decide)) hsb651224 hfr651227 hm651220 he651225 hm651221 he651226 hm651222 he651216 hm651218 he651217 hq651223 (by have qa0 : Int32.toInt 0 = 0 := (by decide); have qa1 : Int32.toInt 6 = 6 := (by decide); omega) (by have qa0 : Int32.toInt 0 = 0 := (by decide); have qa1 : Int32.toInt 6 = 6 := (by decide); omega) (by have qa0 : Int32.toInt 0 = 0 := (by decide); have qa1 : Int32.toInt 6 = 6 := (by decide); omega) (by have qa0 : Int32.toInt 0 = 0 := (by decide); have qa1 : Int32.toInt 6 = 6 := (by decide); omega) (by have qa0 : Int32.toInt 0 = 0 := (by decide); have qa1 : Int32.toInt 6 = 6 := (by decide); omega) (Nat.lt_succ_self _)
  refine G_iload_n 0 dr_cX14_word_16 rfl ?_
  refine G_bipush 118 dr_cX14_word_17 (by decide +kernel) ?_
  refine G_icmp_eq 28 dr_cX14_word_19 (by decide +kernel) (fun hc653245 => ?_) (fun hc653245 => ?_)
  · have r653246 : z651182.toInt = 118 := gj_eq hc653245 (show Int32.toInt 118 = 118 by decide)
    have bz651182' : gB z651182 118 118 := ⟨by omega, by omega⟩
    refine G_aload_n 1 dr_cX14_word_28 rfl ?_
    refine Gp_get 2 hmq651160 he651187 dr_cX14_word_29 (gk_X14 D I) (Nat.le_of_ble_eq_true rfl) wr_9_38 rfl ?_
    refine G_iconst 1 dr_cX14_word_32 (by decide +kernel) ?_
    refine G_iadd dr_cX14_word_33 (G_nam fun z653247 hz653247 => ?_)
    have ez653247 : z653247.toInt = p651163.toInt + 1 := by rw [gI_add hz653247 bp651163 (gBl (show Int32.toInt 1 = 1 by decide)) (by decide) (by decide), show Int32.toInt 1 = 1 from by decide]
    have bz653247 : gB z653247 1 8193 := gB_add (gI_add hz653247 bp651163 (gBl (show Int32.toInt 1 = 1 by decide)) (by decide) (by decide)) bp651163 (gBl (show Int32.toInt 1 = 1 by decide)) (by decide) (by decide)
    refine G_aload_n 1 dr_cX14_word_34 rfl ?_
    refine Gp_get 1 hmq651160 he651187 dr_cX14_word_35 (gk_X14 D I) (Nat.le_of_ble_eq_true rfl) wr_9_37 rfl ?_
    refine G_icmp_ge 178 dr_cX14_word_38 (by decide +kernel) (fun hc653248 => ?_) (fun hc653248 => ?_)
    · have r653249 : p651162.toInt ≤ z653247.toInt := gC_le hc653248
      refine G_lv (L' := [(1, .int z651182), (0, .ref q651160)]) [0, 1] rfl ?_
      exact jn651189
    · have r653250 : z653247.toInt < p651162.toInt := gC_nle hc653248
      have bz653247' : gB z653247 1 8191 := ⟨by omega, by omega⟩
      have bp651162' : gB p651162 2 8192 := ⟨by omega, by omega⟩
      refine G_aload_n 1 dr_cX14_word_41 rfl ?_
      refine Gp_get 0 hmq651160 he651187 dr_cX14_word_42 (gk_X14 D I) (Nat.le_of_ble_eq_true rfl) wr_9_36 rfl ?_
      refine G_aload_n 1 dr_cX14_word_45 rfl ?_
      refine Gp_get 2 hmq651160 he651187 dr_cX14_word_46 (gk_X14 D I) (Nat.le_of_ble_eq_true rfl) wr_9_38 rfl ?_
      refine G_iconst 1 dr_cX14_word_49 (by decide +kernel) ?_
      refine G_iadd dr_cX14_word_50 (G_eqi (y := z653247) hz653247.symm ?_)
      refine Gp_bald 1 hmq651161 he651186 dr_cX14_word_51 rfl (gB_in bz653247' (by decide) (by decide)) (G_nam fun z653251 hz653251 => ?_)
      have bz653251 : gB z653251 (-128) 127 := by rw [hz653251]; exact bf651175 _
      refine Gw_callS (As := [.int z653251]) (gV_ok D I) (cp_649619_Reader_isDigit l hl0 D I P651158 F651183 z653251 ) dr_cX14_word_52 ⟨wr_7_219, wr_1_32, wr_7_221, by decide, rfl, (Nat.le_of_ble_eq_true rfl), (Nat.le_of_ble_eq_true rfl)⟩ wr_7_220 (show 0 + 0 ≤ ((16 * (p651162.toInt - p651163.toInt)).toNat) by first | omega | decide) (show 0 + 0 ≤ ((256 * (p651162.toInt - p651163.toInt)).toNat) by first | omega | decide) (Nat.le_of_ble_eq_true rfl) (fun r653255 w653256 dc653252 ds653253 hp653254 => ?_) (fun _ _ _ _ _ z => z.elim)
      obtain ⟨o653257, rfl, rfl, hdc, hds, bo653257, x653258⟩ := hp653254
      change G _ _ _ _ _ _ _ (.int o653257 :: _) _ _ _
      refine G_widen (cs' := 0) (sl' := 0) (by omega) (by omega) ?_
      refine G_if_eq 178 dr_cX14_word_55 (by decide +kernel) (fun hc653259 => ?_) (fun hc653259 => ?_)
      · have r653260 : o653257.toInt = 0 := gj_eq hc653259 (show Int32.toInt 0 = 0 by decide)
        have bo653257' : gB o653257 0 0 := ⟨by omega, by omega⟩
        refine G_lv (L' := [(1, .int z651182), (0, .ref q651160)]) [0, 1] rfl ?_
        exact jn651189
      · have r653261 : o653257.toInt ≠ 0 := gj_neq hc653259 (show Int32.toInt 0 = 0 by decide)
        have bo653257' : gB o653257 1 1 := ⟨by omega, by omega⟩
        have bi653262 : gB z653251 48 57 := isP_1 x653258 (by omega)
        refine G_lconst 0 dr_cX14_word_58 rfl ?_
        refine G_lstore_n (L' := [(2, .long 0), (1, .int z651182), (0, .ref q651160)]) dr_cX14_word_59 (Nat.le_of_ble_eq_true rfl) rfl ?_
        refine G_aload_n 2 dr_cX14_word_60 rfl ?_
        refine G_dup dr_cX14_word_61 rfl ?_
        refine Gp_get 2 hmq651160 he651187 dr_cX14_word_62 (gk_X14 D I) (Nat.le_of_ble_eq_true rfl) wr_9_38 rfl ?_
        refine G_iconst 1 dr_cX14_word_65 (by decide +kernel) ?_
        refine G_iadd dr_cX14_word_66 (G_eqi (y := z653247) hz653247.symm ?_)
        refine Gp_put 2 hmq651160 he651187 dr_cX14_word_67 (gk_X14 D I) (Nat.le_of_ble_eq_true rfl) wr_9_38 rfl rfl rfl (Nat.le_of_ble_eq_true rfl) (fun F653263 e653264 n653265 => ?_)
        have he653266 : F653263 q651161 = .inl (I .byte, 8192, .inl f651175) := (n653265 q651161 (rn_ao he651186 he651187)).trans he651186
        have he653267 : F653263 q651160 = .inr (19, [.ref q651161, .int p651162, .int z653247, .int 6, .int p651165, .int p651166, .int p651167, .ref qo651168, .int p651169, .int p651170, .int p651171, .ref qo651172, .ref qo651173, .int p651174]) := e653264
        have hfr653268 : rFr [q651160] P651158 F651159 F653263 := rFr_put' List.mem_cons_self hfr651188 n653265
        have hlp70_653415 : ∀ (n70_653415 : Nat) (F653409 : Nat → va_E) (gl653407 : Int64) (g653408 : Int32), gB g653408 0 8192 → rFr [q651160] P651158 F651159 F653409 → F653409 q651160 = .inr (19, [.ref q651161, .int p651162, .int g653408, .int 6, .int p651165, .int p651166, .int p651167, .ref qo651168, .int p651169, .int p651170, .int p651171, .ref qo651172, .ref qo651173, .int p651174]) → F653409 q651161 = .inl (I .byte, 8192, .inl f651175) → LG gl653407 0 1000000 → p651163.toInt < g653408.toInt → g653408.toInt ≤ p651162.toInt → ((8193 : Int) - g653408.toInt).toNat < n70_653415 → G (gV D I) l (gRm 6 132 ((16 * (p651162.toInt - p651163.toInt)).toNat) ((256 * (p651162.toInt - p651163.toInt)).toNat)) (gMA (gV D I) (pp_651181_Reader_word D I P651158 F651159 q651160 q651161 p651162 p651163 p651164 p651165 p651166 p651167 qo651168 p651169 p651170 p651171 qo651172 qo651173 p651174 f651175) gNA ((16 * (p651162.toInt - p651163.toInt)).toNat) ((256 * (p651162.toInt - p651163.toInt)).toNat)) ky_651181_Reader_word 70 [(2, .long gl653407), (1, .int z651182), (0, .ref q651160)] [] (va_pl P651158 F653409) 0 0 := by
          intro n70_653415
          induction n70_653415 with
          | zero => intro F653409 gl653407 g653408 bg653408 hfr653412 he653410 he653411 x653413 x653414 x653415 hm70_653415; exact absurd hm70_653415 (Nat.not_lt_zero _)
          | succ n70_653415 ih70_653415 =>
            intro F653409 gl653407 g653408 bg653408 hfr653412 he653410 he653411 x653413 x653414 x653415 hm70_653415
            refine G_aload_n 2 dr_cX14_word_70 rfl ?_
            refine Gp_get 2 hmq651160 he653410 dr_cX14_word_71 (gk_X14 D I) (Nat.le_of_ble_eq_true rfl) wr_9_38 rfl ?_
            refine G_aload_n 2 dr_cX14_word_74 rfl ?_
            refine Gp_get 1 hmq651160 he653410 dr_cX14_word_75 (gk_X14 D I) (Nat.le_of_ble_eq_true rfl) wr_9_37 rfl ?_
            refine G_icmp_ge 136 dr_cX14_word_78 (by decide +kernel) (fun hc653416 => ?_) (fun hc653416 => ?_)
            · have r653417 : p651162.toInt ≤ g653408.toInt := gC_le hc653416
              have bg653408' : gB g653408 2 8192 := ⟨by omega, by omega⟩
              clear bz651182 he651186 he651187 hfr651188 jn651189 bz653247 bz653251 bo653257 bo653257' he653266 he653267 hfr653268; try clear r653255; try clear w653256; try clear dc653252; try clear ds653253; try clear hp653254; try clear x653258; try clear r653261
              refine G_aload_n 2 dr_cX14_word_136 rfl ?_
              refine G_lload_n 0 dr_cX14_word_137 rfl ?_
              refine G_l2i dr_cX14_word_138 (G_nam fun z653418 hz653418 => ?_)
              have bz653418 : gB z653418 (-2147483648) 2147483647 := gB_any z653418
              refine Gp_put 5 hmq651160 he653410 dr_cX14_word_139 (gk_X14 D I) (Nat.le_of_ble_eq_true rfl) wr_9_41 rfl rfl rfl (Nat.le_of_ble_eq_true rfl) (fun F653419 e653420 n653421 => ?_)
              have he653422 : F653419 q651161 = .inl (I .byte, 8192, .inl f651175) := (n653421 q651161 (rn_ao he653411 he653410)).trans he653411
              have he653423 : F653419 q651160 = .inr (19, [.ref q651161, .int p651162, .int g653408, .int 6, .int p651165, .int z653418, .int p651167, .ref qo651168, .int p651169, .int p651170, .int p651171, .ref qo651172, .ref qo651173, .int p651174]) := e653420
              have hfr653424 : rFr [q651160] P651158 F651159 F653419 := rFr_put' List.mem_cons_self hfr653412 n653421
              refine G_lload_n 0 dr_cX14_word_142 rfl ?_
              refine G_iload_n 1 dr_cX14_word_143 rfl ?_
              refine G_bipush 118 dr_cX14_word_144 (by decide +kernel) ?_
              refine G_icmp_ne 155 dr_cX14_word_146 (by decide +kernel) (fun hc => absurd (show False by have := gj_neq hc (show Int32.toInt 118 = 118 by decide); omega) not_false) (fun _ => ?_)
              refine G_ldc2 99 dr_cX14_word_149 wr_7_233 ?_
              refine G_goto 158 dr_cX14_word_152 (by decide +kernel) ?_
              refine G_lcmp dr_cX14_word_158 (G_nam fun z653425 hz653425 => ?_)
              have bz653425 : gB z653425 (-1) 1 := gB_cmp hz653425
              refine G_if_gt 177 dr_cX14_word_159 (by decide +kernel) (fun hc653426 => ?_) (fun hc653426 => ?_)
              · have r653427 : 0 < z653425.toInt := gj_ltL hc653426 (show Int32.toInt 0 = 0 by decide)
                have bz653425' : gB z653425 1 1 := ⟨by omega, by omega⟩
                have lhc653426 := gC_cmpS hz653425 (by omega)
                exact G_vretA dr_cX14_word_177 rfl (show 0 ≤ ((16 * (p651162.toInt - p651163.toInt)).toNat) by omega) (show 0 ≤ ((256 * (p651162.toInt - p651163.toInt)).toNat) by omega) ⟨P651158, F653419, g653408, 6, z653418, qo651168, rfl, rfl, (rSub_rf (P := P651158)), hfr653424, he653423, he653422, (by omega), (by omega), (gB_w bg653408' (by decide) (by decide)), (gB_w (gBl (show Int32.toInt 6 = 6 by decide)) (by decide) (by decide)), (by have qa0 : Int32.toInt 6 = 6 := (by decide); omega), (by have qa0 : Int32.toInt 6 = 6 := (by decide); omega), (tP_no (by decide) (by decide)), (vP_no (by decide) (by decide))⟩
              · have r653428 : z653425.toInt ≤ 0 := gj_nltL hc653426 (show Int32.toInt 0 = 0 by decide)
                have bz653425' : gB z653425 (-1) 0 := ⟨by omega, by omega⟩
                refine G_aload_n 2 dr_cX14_word_162 rfl ?_
                refine G_iload_n 1 dr_cX14_word_163 rfl ?_
                refine G_bipush 118 dr_cX14_word_164 (by decide +kernel) ?_
                refine G_icmp_ne 173 dr_cX14_word_166 (by decide +kernel) (fun hc => absurd (show False by have := gj_neq hc (show Int32.toInt 118 = 118 by decide); omega) not_false) (fun _ => ?_)
                refine G_iconst 2 dr_cX14_word_169 (by decide +kernel) ?_
                refine G_goto 174 dr_cX14_word_170 (by decide +kernel) ?_
                refine Gp_put 3 hmq651160 he653423 dr_cX14_word_174 (gk_X14 D I) (Nat.le_of_ble_eq_true rfl) wr_9_39 rfl rfl rfl (Nat.le_of_ble_eq_true rfl) (fun F653429 e653430 n653431 => ?_)
                have he653432 : F653429 q651161 = .inl (I .byte, 8192, .inl f651175) := (n653431 q651161 (rn_ao he653422 he653423)).trans he653422
                have he653433 : F653429 q651160 = .inr (19, [.ref q651161, .int p651162, .int g653408, .int 2, .int p651165, .int z653418, .int p651167, .ref qo651168, .int p651169, .int p651170, .int p651171, .ref qo651172, .ref qo651173, .int p651174]) := e653430
                have hfr653434 : rFr [q651160] P651158 F651159 F653429 := rFr_put' List.mem_cons_self hfr653424 n653431
                exact G_vretA dr_cX14_word_177 rfl (show 0 ≤ ((16 * (p651162.toInt - p651163.toInt)).toNat) by omega) (show 0 ≤ ((256 * (p651162.toInt - p651163.toInt)).toNat) by omega) ⟨P651158, F653429, g653408, 2, z653418, qo651168, rfl, rfl, (rSub_rf (P := P651158)), hfr653434, he653433, he653432, (by omega), (by omega), (gB_w bg653408' (by decide) (by decide)), (gB_w (gBl (show Int32.toInt 2 = 2 by decide)) (by decide) (by decide)), (by have qa0 : Int32.toInt 2 = 2 := (by decide); omega), (by have qa0 : Int32.toInt 2 = 2 := (by decide); omega), (tP_no (by decide) (by decide)), (vP_r (by assumption) (by assumption) (by assumption) (by omega))⟩
            · have r653435 : g653408.toInt < p651162.toInt := gC_nle hc653416
              have bg653408' : gB g653408 0 8191 := ⟨by omega, by omega⟩
              refine G_aload_n 2 dr_cX14_word_81 rfl ?_
              refine Gp_get 0 hmq651160 he653410 dr_cX14_word_82 (gk_X14 D I) (Nat.le_of_ble_eq_true rfl) wr_9_36 rfl ?_
              refine G_aload_n 2 dr_cX14_word_85 rfl ?_
              refine Gp_get 2 hmq651160 he653410 dr_cX14_word_86 (gk_X14 D I) (Nat.le_of_ble_eq_true rfl) wr_9_38 rfl ?_
              refine Gp_bald 1 hmq651161 he653411 dr_cX14_word_89 rfl (gB_in bg653408' (by decide) (by decide)) (G_nam fun z653436 hz653436 => ?_)
              have bz653436 : gB z653436 (-128) 127 := by rw [hz653436]; exact bf651175 _
              refine Gw_callS (As := [.int z653436]) (gV_ok D I) (cp_649619_Reader_isDigit l hl0 D I P651158 F653409 z653436 ) dr_cX14_word_90 ⟨wr_7_219, wr_1_32, wr_7_221, by decide, rfl, (Nat.le_of_ble_eq_true rfl), (Nat.le_of_ble_eq_true rfl)⟩ wr_7_220 (show 0 + 0 ≤ ((16 * (p651162.toInt - p651163.toInt)).toNat) by first | omega | decide) (show 0 + 0 ≤ ((256 * (p651162.toInt - p651163.toInt)).toNat) by first | omega | decide) (Nat.le_of_ble_eq_true rfl) (fun r653440 w653441 dc653437 ds653438 hp653439 => ?_) (fun _ _ _ _ _ z => z.elim)
              obtain ⟨o653442, rfl, rfl, hdc, hds, bo653442, x653443⟩ := hp653439
              change G _ _ _ _ _ _ _ (.int o653442 :: _) _ _ _
              refine G_widen (cs' := 0) (sl' := 0) (by omega) (by omega) ?_
              refine G_if_eq 136 dr_cX14_word_93 (by decide +kernel) (fun hc653444 => ?_) (fun hc653444 => ?_)
              · have r653445 : o653442.toInt = 0 := gj_eq hc653444 (show Int32.toInt 0 = 0 by decide)
                have bo653442' : gB o653442 0 0 := ⟨by omega, by omega⟩
                clear bz651182 he651186 he651187 hfr651188 jn651189 bz653247 bz653251 bo653257 bo653257' he653266 he653267 hfr653268 bo653442 bo653442'; try clear r653255; try clear w653256; try clear dc653252; try clear ds653253; try clear hp653254; try clear x653258; try clear r653261; try clear r653440; try clear w653441; try clear dc653437; try clear ds653438; try clear hp653439; try clear x653443; try clear r653445
                refine G_aload_n 2 dr_cX14_word_136 rfl ?_
                refine G_lload_n 0 dr_cX14_word_137 rfl ?_
                refine G_l2i dr_cX14_word_138 (G_nam fun z653446 hz653446 => ?_)
                have bz653446 : gB z653446 (-2147483648) 2147483647 := gB_any z653446
                refine Gp_put 5 hmq651160 he653410 dr_cX14_word_139 (gk_X14 D I) (Nat.le_of_ble_eq_true rfl) wr_9_41 rfl rfl rfl (Nat.le_of_ble_eq_true rfl) (fun F653447 e653448 n653449 => ?_)
                have he653450 : F653447 q651161 = .inl (I .byte, 8192, .inl f651175) := (n653449 q651161 (rn_ao he653411 he653410)).trans he653411
                have he653451 : F653447 q651160 = .inr (19, [.ref q651161, .int p651162, .int g653408, .int 6, .int p651165, .int z653446, .int p651167, .ref qo651168, .int p651169, .int p651170, .int p651171, .ref qo651172, .ref qo651173, .int p651174]) := e653448
                have hfr653452 : rFr [q651160] P651158 F651159 F653447 := rFr_put' List.mem_cons_self hfr653412 n653449
                refine G_lload_n 0 dr_cX14_word_142 rfl ?_
                refine G_iload_n 1 dr_cX14_word_143 rfl ?_
                refine G_bipush 118 dr_cX14_word_144 (by decide +kernel) ?_
                refine G_icmp_ne 155 dr_cX14_word_146 (by decide +kernel) (fun hc => absurd (show False by have := gj_neq hc (show Int32.toInt 118 = 118 by decide); omega) not_false) (fun _ => ?_)
                refine G_ldc2 99 dr_cX14_word_149 wr_7_233 ?_
                refine G_goto 158 dr_cX14_word_152 (by decide +kernel) ?_
                refine G_lcmp dr_cX14_word_158 (G_nam fun z653453 hz653453 => ?_)
                have bz653453 : gB z653453 (-1) 1 := gB_cmp hz653453
                refine G_if_gt 177 dr_cX14_word_159 (by decide +kernel) (fun hc653454 => ?_) (fun hc653454 => ?_)
                · have r653455 : 0 < z653453.toInt := gj_ltL hc653454 (show Int32.toInt 0 = 0 by decide)
                  have bz653453' : gB z653453 1 1 := ⟨by omega, by omega⟩
                  have lhc653454 := gC_cmpS hz653453 (by omega)
                  exact G_vretA dr_cX14_word_177 rfl (show 0 ≤ ((16 * (p651162.toInt - p651163.toInt)).toNat) by omega) (show 0 ≤ ((256 * (p651162.toInt - p651163.toInt)).toNat) by omega) ⟨P651158, F653447, g653408, 6, z653446, qo651168, rfl, rfl, (rSub_rf (P := P651158)), hfr653452, he653451, he653450, (by omega), (by omega), (gB_w bg653408' (by decide) (by decide)), (gB_w (gBl (show Int32.toInt 6 = 6 by decide)) (by decide) (by decide)), (by have qa0 : Int32.toInt 6 = 6 := (by decide); omega), (by have qa0 : Int32.toInt 6 = 6 := (by decide); omega), (tP_no (by decide) (by decide)), (vP_no (by decide) (by decide))⟩
                · have r653456 : z653453.toInt ≤ 0 := gj_nltL hc653454 (show Int32.toInt 0 = 0 by decide)
                  have bz653453' : gB z653453 (-1) 0 := ⟨by omega, by omega⟩
                  refine G_aload_n 2 dr_cX14_word_162 rfl ?_
                  refine G_iload_n 1 dr_cX14_word_163 rfl ?_
                  refine G_bipush 118 dr_cX14_word_164 (by decide +kernel) ?_
                  refine G_icmp_ne 173 dr_cX14_word_166 (by decide +kernel) (fun hc => absurd (show False by have := gj_neq hc (show Int32.toInt 118 = 118 by decide); omega) not_false) (fun _ => ?_)
                  refine G_iconst 2 dr_cX14_word_169 (by decide +kernel) ?_
                  refine G_goto 174 dr_cX14_word_170 (by decide +kernel) ?_
                  refine Gp_put 3 hmq651160 he653451 dr_cX14_word_174 (gk_X14 D I) (Nat.le_of_ble_eq_true rfl) wr_9_39 rfl rfl rfl (Nat.le_of_ble_eq_true rfl) (fun F653457 e653458 n653459 => ?_)
                  have he653460 : F653457 q651161 = .inl (I .byte, 8192, .inl f651175) := (n653459 q651161 (rn_ao he653450 he653451)).trans he653450
                  have he653461 : F653457 q651160 = .inr (19, [.ref q651161, .int p651162, .int g653408, .int 2, .int p651165, .int z653446, .int p651167, .ref qo651168, .int p651169, .int p651170, .int p651171, .ref qo651172, .ref qo651173, .int p651174]) := e653458
                  have hfr653462 : rFr [q651160] P651158 F651159 F653457 := rFr_put' List.mem_cons_self hfr653452 n653459
                  exact G_vretA dr_cX14_word_177 rfl (show 0 ≤ ((16 * (p651162.toInt - p651163.toInt)).toNat) by omega) (show 0 ≤ ((256 * (p651162.toInt - p651163.toInt)).toNat) by omega) ⟨P651158, F653457, g653408, 2, z653446, qo651168, rfl, rfl, (rSub_rf (P := P651158)), hfr653462, he653461, he653460, (by omega), (by omega), (gB_w bg653408' (by decide) (by decide)), (gB_w (gBl (show Int32.toInt 2 = 2 by decide)) (by decide) (by decide)), (by have qa0 : Int32.toInt 2 = 2 := (by decide); omega), (by have qa0 : Int32.toInt 2 = 2 := (by decide); omega), (tP_no (by decide) (by decide)), (vP_r (by assumption) (by assumption) (by assumption) (by omega))⟩
              · have r653463 : o653442.toInt ≠ 0 := gj_neq hc653444 (show Int32.toInt 0 = 0 by decide)
                have bo653442' : gB o653442 1 1 := ⟨by omega, by omega⟩
                have bi653464 : gB z653436 48 57 := isP_1 x653443 (by omega)
                refine G_lload_n 0 dr_cX14_word_96 rfl ?_
                refine G_ldc2 10 dr_cX14_word_97 wr_7_229 ?_
                refine G_lmul dr_cX14_word_100 (G_namL fun u653465 hu653465 => ?_)
                refine G_aload_n 2 dr_cX14_word_101 rfl ?_
                refine Gp_get 0 hmq651160 he653410 dr_cX14_word_102 (gk_X14 D I) (Nat.le_of_ble_eq_true rfl) wr_9_36 rfl ?_
                refine G_aload_n 2 dr_cX14_word_105 rfl ?_
                refine Gp_get 2 hmq651160 he653410 dr_cX14_word_106 (gk_X14 D I) (Nat.le_of_ble_eq_true rfl) wr_9_38 rfl ?_
                refine Gp_bald 1 hmq651161 he653411 dr_cX14_word_109 rfl (gB_in bg653408' (by decide) (by decide)) (G_eqi (y := z653436) hz653436.symm ?_)
                refine G_i2l dr_cX14_word_110 (G_namL fun u653466 hu653466 => ?_)
                refine G_ladd dr_cX14_word_111 (G_namL fun u653467 hu653467 => ?_)
                refine G_ldc2 48 dr_cX14_word_112 wr_7_230 ?_
                refine G_lsub dr_cX14_word_115 (G_namL fun u653468 hu653468 => ?_)
                refine G_ldc2 1000000 dr_cX14_word_116 wr_7_231 ?_
                refine Gw_callS (As := [.long u653468, .long 1000000]) (gV_ok D I) (cp_649672_Math_min l hl0 D I P651158 F653409 u653468 1000000 ) dr_cX14_word_119 ⟨wr_7_232, wr_1_6, wr_3_40, by decide, rfl, (Nat.le_of_ble_eq_true rfl), (Nat.le_of_ble_eq_true rfl)⟩ wr_3_39 (show 0 + 0 ≤ ((16 * (p651162.toInt - p651163.toInt)).toNat) by first | omega | decide) (show 0 + 0 ≤ ((256 * (p651162.toInt - p651163.toInt)).toNat) by first | omega | decide) (Nat.le_of_ble_eq_true rfl) (fun r653472 w653473 dc653469 ds653470 hp653471 => ?_) (fun _ _ _ _ _ z => z.elim)
                obtain ⟨ol653474, rfl, rfl, hdc, hds, x653475⟩ := hp653471
                change G _ _ _ _ _ _ _ (.long ol653474 :: _) _ _ _
                refine G_widen (cs' := 0) (sl' := 0) (by omega) (by omega) ?_
                refine G_lstore_n (L' := [(2, .long ol653474), (1, .int z651182), (0, .ref q651160)]) dr_cX14_word_122 (Nat.le_of_ble_eq_true rfl) rfl ?_
                refine G_aload_n 2 dr_cX14_word_123 rfl ?_
                refine G_dup dr_cX14_word_124 rfl ?_
                refine Gp_get 2 hmq651160 he653410 dr_cX14_word_125 (gk_X14 D I) (Nat.le_of_ble_eq_true rfl) wr_9_38 rfl ?_
                refine G_iconst 1 dr_cX14_word_128 (by decide +kernel) ?_
                refine G_iadd dr_cX14_word_129 (G_nam fun z653476 hz653476 => ?_)
                have ez653476 : z653476.toInt = g653408.toInt + 1 := by rw [gI_add hz653476 bg653408' (gBl (show Int32.toInt 1 = 1 by decide)) (by decide) (by decide), show Int32.toInt 1 = 1 from by decide]
                have bz653476 : gB z653476 1 8192 := gB_add (gI_add hz653476 bg653408' (gBl (show Int32.toInt 1 = 1 by decide)) (by decide) (by decide)) bg653408' (gBl (show Int32.toInt 1 = 1 by decide)) (by decide) (by decide)
                refine Gp_put 2 hmq651160 he653410 dr_cX14_word_130 (gk_X14 D I) (Nat.le_of_ble_eq_true rfl) wr_9_38 rfl rfl rfl (Nat.le_of_ble_eq_true rfl) (fun F653477 e653478 n653479 => ?_)
                have he653480 : F653477 q651161 = .inl (I .byte, 8192, .inl f651175) := (n653479 q651161 (rn_ao he653411 he653410)).trans he653411
                have he653481 : F653477 q651160 = .inr (19, [.ref q651161, .int p651162, .int z653476, .int 6, .int p651165, .int p651166, .int p651167, .ref qo651168, .int p651169, .int p651170, .int p651171, .ref qo651172, .ref qo651173, .int p651174]) := e653478
                have hfr653482 : rFr [q651160] P651158 F651159 F653477 := rFr_put' List.mem_cons_self hfr653412 n653479
                refine G_goto 70 dr_cX14_word_133 (by decide +kernel) ?_
                exact ih70_653415 F653477 ol653474 z653476 (gB_w bz653476 (by decide) (by decide)) hfr653482 he653481 he653480 (lgSt (by assumption) (by assumption) (by assumption) (by assumption) (by assumption) (by assumption) (by omega) (by omega)) (by have qa0 : Int32.toInt 6 = 6 := (by decide); omega) (by have qa0 : Int32.toInt 6 = 6 := (by decide); omega) (by have qa0 : Int32.toInt 6 = 6 := (by decide); omega)
        exact hlp70_653415 (((8193 : Int) - z653247.toInt).toNat + 1) F653263 0 z653247 (gB_w bz653247' (by decide) (by decide)) hfr653268 he653267 he653266 LG_0 (by have qa0 : Int32.toInt 6 = 6 := (by decide); omega) (by have qa0 : Int32.toInt 6 = 6 := (by decide); omega) (Nat.lt_succ_self _)
  · have r653483 : z651182.toInt ≠ 118 := gj_neq hc653245 (show Int32.toInt 118 = 118 by decide)
    refine G_iload_n 0 dr_cX14_word_22 rfl ?_
    refine G_bipush 98 dr_cX14_word_23 (by decide +kernel) ?_
    refine G_icmp_ne 178 dr_cX14_word_25 (by decide +kernel) (fun hc653484 => ?_) (fun hc653484 => ?_)
    · have r653485 : z651182.toInt ≠ 98 := gj_neq hc653484 (show Int32.toInt 98 = 98 by decide)
      refine G_lv (L' := [(1, .int z651182), (0, .ref q651160)]) [0, 1] rfl ?_
      exact jn651189
    · have r653486 : z651182.toInt = 98 := gj_eq hc653484 (show Int32.toInt 98 = 98 by decide)
      have bz651182' : gB z651182 98 98 := ⟨by omega, by omega⟩
      refine G_aload_n 1 dr_cX14_word_28 rfl ?_
      refine Gp_get 2 hmq651160 he651187 dr_cX14_word_29 (gk_X14 D I) (Nat.le_of_ble_eq_true rfl) wr_9_38 rfl ?_
      refine G_iconst 1 dr_cX14_word_32 (by decide +kernel) ?_
      refine G_iadd dr_cX14_word_33 (G_nam fun z653487 hz653487 => ?_)
      have ez653487 : z653487.toInt = p651163.toInt + 1 := by rw [gI_add hz653487 bp651163 (gBl (show Int32.toInt 1 = 1 by decide)) (by decide) (by decide), show Int32.toInt 1 = 1 from by decide]
      have bz653487 : gB z653487 1 8193 := gB_add (gI_add hz653487 bp651163 (gBl (show Int32.toInt 1 = 1 by decide)) (by decide) (by decide)) bp651163 (gBl (show Int32.toInt 1 = 1 by decide)) (by decide) (by decide)
      refine G_aload_n 1 dr_cX14_word_34 rfl ?_
      refine Gp_get 1 hmq651160 he651187 dr_cX14_word_35 (gk_X14 D I) (Nat.le_of_ble_eq_true rfl) wr_9_37 rfl ?_
      refine G_icmp_ge 178 dr_cX14_word_38 (by decide +kernel) (fun hc653488 => ?_) (fun hc653488 => ?_)
      · have r653489 : p651162.toInt ≤ z653487.toInt := gC_le hc653488
        refine G_lv (L' := [(1, .int z651182), (0, .ref q651160)]) [0, 1] rfl ?_
        exact jn651189
      · have r653490 : z653487.toInt < p651162.toInt := gC_nle hc653488
        have bz653487' : gB z653487 1 8191 := ⟨by omega, by omega⟩
        have bp651162' : gB p651162 2 8192 := ⟨by omega, by omega⟩
        refine G_aload_n 1 dr_cX14_word_41 rfl ?_
        refine Gp_get 0 hmq651160 he651187 dr_cX14_word_42 (gk_X14 D I) (Nat.le_of_ble_eq_true rfl) wr_9_36 rfl ?_
        refine G_aload_n 1 dr_cX14_word_45 rfl ?_
        refine Gp_get 2 hmq651160 he651187 dr_cX14_word_46 (gk_X14 D I) (Nat.le_of_ble_eq_true rfl) wr_9_38 rfl ?_
        refine G_iconst 1 dr_cX14_word_49 (by decide +kernel) ?_
        refine G_iadd dr_cX14_word_50 (G_eqi (y := z653487) hz653487.symm ?_)
        refine Gp_bald 1 hmq651161 he651186 dr_cX14_word_51 rfl (gB_in bz653487' (by decide) (by decide)) (G_nam fun z653491 hz653491 => ?_)
        have bz653491 : gB z653491 (-128) 127 := by rw [hz653491]; exact bf651175 _
        refine Gw_callS (As := [.int z653491]) (gV_ok D I) (cp_649619_Reader_isDigit l hl0 D I P651158 F651183 z653491 ) dr_cX14_word_52 ⟨wr_7_219, wr_1_32, wr_7_221, by decide, rfl, (Nat.le_of_ble_eq_true rfl), (Nat.le_of_ble_eq_true rfl)⟩ wr_7_220 (show 0 + 0 ≤ ((16 * (p651162.toInt - p651163.toInt)).toNat) by first | omega | decide) (show 0 + 0 ≤ ((256 * (p651162.toInt - p651163.toInt)).toNat) by first | omega | decide) (Nat.le_of_ble_eq_true rfl) (fun r653495 w653496 dc653492 ds653493 hp653494 => ?_) (fun _ _ _ _ _ z => z.elim)
        obtain ⟨o653497, rfl, rfl, hdc, hds, bo653497, x653498⟩ := hp653494
        change G _ _ _ _ _ _ _ (.int o653497 :: _) _ _ _
        refine G_widen (cs' := 0) (sl' := 0) (by omega) (by omega) ?_
        refine G_if_eq 178 dr_cX14_word_55 (by decide +kernel) (fun hc653499 => ?_) (fun hc653499 => ?_)
        · have r653500 : o653497.toInt = 0 := gj_eq hc653499 (show Int32.toInt 0 = 0 by decide)
          have bo653497' : gB o653497 0 0 := ⟨by omega, by omega⟩
          refine G_lv (L' := [(1, .int z651182), (0, .ref q651160)]) [0, 1] rfl ?_
          exact jn651189
        · have r653501 : o653497.toInt ≠ 0 := gj_neq hc653499 (show Int32.toInt 0 = 0 by decide)
          have bo653497' : gB o653497 1 1 := ⟨by omega, by omega⟩
          have bi653502 : gB z653491 48 57 := isP_1 x653498 (by omega)
          refine G_lconst 0 dr_cX14_word_58 rfl ?_
          refine G_lstore_n (L' := [(2, .long 0), (1, .int z651182), (0, .ref q651160)]) dr_cX14_word_59 (Nat.le_of_ble_eq_true rfl) rfl ?_
          refine G_aload_n 2 dr_cX14_word_60 rfl ?_
          refine G_dup dr_cX14_word_61 rfl ?_
          refine Gp_get 2 hmq651160 he651187 dr_cX14_word_62 (gk_X14 D I) (Nat.le_of_ble_eq_true rfl) wr_9_38 rfl ?_
          refine G_iconst 1 dr_cX14_word_65 (by decide +kernel) ?_
          refine G_iadd dr_cX14_word_66 (G_eqi (y := z653487) hz653487.symm ?_)
          refine Gp_put 2 hmq651160 he651187 dr_cX14_word_67 (gk_X14 D I) (Nat.le_of_ble_eq_true rfl) wr_9_38 rfl rfl rfl (Nat.le_of_ble_eq_true rfl) (fun F653503 e653504 n653505 => ?_)
          have he653506 : F653503 q651161 = .inl (I .byte, 8192, .inl f651175) := (n653505 q651161 (rn_ao he651186 he651187)).trans he651186
          have he653507 : F653503 q651160 = .inr (19, [.ref q651161, .int p651162, .int z653487, .int 6, .int p651165, .int p651166, .int p651167, .ref qo651168, .int p651169, .int p651170, .int p651171, .ref qo651172, .ref qo651173, .int p651174]) := e653504
          have hfr653508 : rFr [q651160] P651158 F651159 F653503 := rFr_put' List.mem_cons_self hfr651188 n653505
          have hlp70_653655 : ∀ (n70_653655 : Nat) (F653649 : Nat → va_E) (gl653647 : Int64) (g653648 : Int32), gB g653648 0 8192 → rFr [q651160] P651158 F651159 F653649 → F653649 q651160 = .inr (19, [.ref q651161, .int p651162, .int g653648, .int 6, .int p651165, .int p651166, .int p651167, .ref qo651168, .int p651169, .int p651170, .int p651171, .ref qo651172, .ref qo651173, .int p651174]) → F653649 q651161 = .inl (I .byte, 8192, .inl f651175) → LG gl653647 0 1000000 → p651163.toInt < g653648.toInt → g653648.toInt ≤ p651162.toInt → ((8193 : Int) - g653648.toInt).toNat < n70_653655 → G (gV D I) l (gRm 6 132 ((16 * (p651162.toInt - p651163.toInt)).toNat) ((256 * (p651162.toInt - p651163.toInt)).toNat)) (gMA (gV D I) (pp_651181_Reader_word D I P651158 F651159 q651160 q651161 p651162 p651163 p651164 p651165 p651166 p651167 qo651168 p651169 p651170 p651171 qo651172 qo651173 p651174 f651175) gNA ((16 * (p651162.toInt - p651163.toInt)).toNat) ((256 * (p651162.toInt - p651163.toInt)).toNat)) ky_651181_Reader_word 70 [(2, .long gl653647), (1, .int z651182), (0, .ref q651160)] [] (va_pl P651158 F653649) 0 0 := by
            intro n70_653655
            induction n70_653655 with
            | zero => intro F653649 gl653647 g653648 bg653648 hfr653652 he653650 he653651 x653653 x653654 x653655 hm70_653655; exact absurd hm70_653655 (Nat.not_lt_zero _)
            | succ n70_653655 ih70_653655 =>
              intro F653649 gl653647 g653648 bg653648 hfr653652 he653650 he653651 x653653 x653654 x653655 hm70_653655
              refine G_aload_n 2 dr_cX14_word_70 rfl ?_
              refine Gp_get 2 hmq651160 he653650 dr_cX14_word_71 (gk_X14 D I) (Nat.le_of_ble_eq_true rfl) wr_9_38 rfl ?_
              refine G_aload_n 2 dr_cX14_word_74 rfl ?_
              refine Gp_get 1 hmq651160 he653650 dr_cX14_word_75 (gk_X14 D I) (Nat.le_of_ble_eq_true rfl) wr_9_37 rfl ?_
              refine G_icmp_ge 136 dr_cX14_word_78 (by decide +kernel) (fun hc653656 => ?_) (fun hc653656 => ?_)
              · have r653657 : p651162.toInt ≤ g653648.toInt := gC_le hc653656
                have bg653648' : gB g653648 2 8192 := ⟨by omega, by omega⟩
                clear bz651182 he651186 he651187 hfr651188 jn651189 bz653487 bz653491 bo653497 bo653497' he653506 he653507 hfr653508; try clear r653495; try clear w653496; try clear dc653492; try clear ds653493; try clear hp653494; try clear x653498; try clear r653501
                refine G_aload_n 2 dr_cX14_word_136 rfl ?_
                refine G_lload_n 0 dr_cX14_word_137 rfl ?_
                refine G_l2i dr_cX14_word_138 (G_nam fun z653658 hz653658 => ?_)
                have bz653658 : gB z653658 (-2147483648) 2147483647 := gB_any z653658
                refine Gp_put 5 hmq651160 he653650 dr_cX14_word_139 (gk_X14 D I) (Nat.le_of_ble_eq_true rfl) wr_9_41 rfl rfl rfl (Nat.le_of_ble_eq_true rfl) (fun F653659 e653660 n653661 => ?_)
                have he653662 : F653659 q651161 = .inl (I .byte, 8192, .inl f651175) := (n653661 q651161 (rn_ao he653651 he653650)).trans he653651
                have he653663 : F653659 q651160 = .inr (19, [.ref q651161, .int p651162, .int g653648, .int 6, .int p651165, .int z653658, .int p651167, .ref qo651168, .int p651169, .int p651170, .int p651171, .ref qo651172, .ref qo651173, .int p651174]) := e653660
                have hfr653664 : rFr [q651160] P651158 F651159 F653659 := rFr_put' List.mem_cons_self hfr653652 n653661
                refine G_lload_n 0 dr_cX14_word_142 rfl ?_
                refine G_iload_n 1 dr_cX14_word_143 rfl ?_
                refine G_bipush 118 dr_cX14_word_144 (by decide +kernel) ?_
                refine G_icmp_ne 155 dr_cX14_word_146 (by decide +kernel) (fun _ => ?_) (fun hc => absurd (show False by have := gj_eq hc (show Int32.toInt 118 = 118 by decide); omega) not_false)
                refine G_ldc2 39 dr_cX14_word_155 wr_7_234 ?_
                refine G_lcmp dr_cX14_word_158 (G_nam fun z653665 hz653665 => ?_)
                have bz653665 : gB z653665 (-1) 1 := gB_cmp hz653665
                refine G_if_gt 177 dr_cX14_word_159 (by decide +kernel) (fun hc653666 => ?_) (fun hc653666 => ?_)
                · have r653667 : 0 < z653665.toInt := gj_ltL hc653666 (show Int32.toInt 0 = 0 by decide)
                  have bz653665' : gB z653665 1 1 := ⟨by omega, by omega⟩
                  have lhc653666 := gC_cmpS hz653665 (by omega)
                  exact G_vretA dr_cX14_word_177 rfl (show 0 ≤ ((16 * (p651162.toInt - p651163.toInt)).toNat) by omega) (show 0 ≤ ((256 * (p651162.toInt - p651163.toInt)).toNat) by omega) ⟨P651158, F653659, g653648, 6, z653658, qo651168, rfl, rfl, (rSub_rf (P := P651158)), hfr653664, he653663, he653662, (by omega), (by omega), (gB_w bg653648' (by decide) (by decide)), (gB_w (gBl (show Int32.toInt 6 = 6 by decide)) (by decide) (by decide)), (by have qa0 : Int32.toInt 6 = 6 := (by decide); omega), (by have qa0 : Int32.toInt 6 = 6 := (by decide); omega), (tP_no (by decide) (by decide)), (vP_no (by decide) (by decide))⟩
                · have r653668 : z653665.toInt ≤ 0 := gj_nltL hc653666 (show Int32.toInt 0 = 0 by decide)
                  have bz653665' : gB z653665 (-1) 0 := ⟨by omega, by omega⟩
                  refine G_aload_n 2 dr_cX14_word_162 rfl ?_
                  refine G_iload_n 1 dr_cX14_word_163 rfl ?_
                  refine G_bipush 118 dr_cX14_word_164 (by decide +kernel) ?_
                  refine G_icmp_ne 173 dr_cX14_word_166 (by decide +kernel) (fun _ => ?_) (fun hc => absurd (show False by have := gj_eq hc (show Int32.toInt 118 = 118 by decide); omega) not_false)
                  refine G_iconst 3 dr_cX14_word_173 (by decide +kernel) ?_
                  refine Gp_put 3 hmq651160 he653663 dr_cX14_word_174 (gk_X14 D I) (Nat.le_of_ble_eq_true rfl) wr_9_39 rfl rfl rfl (Nat.le_of_ble_eq_true rfl) (fun F653669 e653670 n653671 => ?_)
                  have he653672 : F653669 q651161 = .inl (I .byte, 8192, .inl f651175) := (n653671 q651161 (rn_ao he653662 he653663)).trans he653662
                  have he653673 : F653669 q651160 = .inr (19, [.ref q651161, .int p651162, .int g653648, .int 3, .int p651165, .int z653658, .int p651167, .ref qo651168, .int p651169, .int p651170, .int p651171, .ref qo651172, .ref qo651173, .int p651174]) := e653670
                  have hfr653674 : rFr [q651160] P651158 F651159 F653669 := rFr_put' List.mem_cons_self hfr653664 n653671
                  exact G_vretA dr_cX14_word_177 rfl (show 0 ≤ ((16 * (p651162.toInt - p651163.toInt)).toNat) by omega) (show 0 ≤ ((256 * (p651162.toInt - p651163.toInt)).toNat) by omega) ⟨P651158, F653669, g653648, 3, z653658, qo651168, rfl, rfl, (rSub_rf (P := P651158)), hfr653674, he653673, he653672, (by omega), (by omega), (gB_w bg653648' (by decide) (by decide)), (gB_w (gBl (show Int32.toInt 3 = 3 by decide)) (by decide) (by decide)), (by have qa0 : Int32.toInt 3 = 3 := (by decide); omega), (by have qa0 : Int32.toInt 3 = 3 := (by decide); omega), (tP_no (by decide) (by decide)), (vP_b (by assumption) (by assumption) (by assumption) (by omega))⟩
              · have r653675 : g653648.toInt < p651162.toInt := gC_nle hc653656
                have bg653648' : gB g653648 0 8191 := ⟨by omega, by omega⟩
                refine G_aload_n 2 dr_cX14_word_81 rfl ?_
                refine Gp_get 0 hmq651160 he653650 dr_cX14_word_82 (gk_X14 D I) (Nat.le_of_ble_eq_true rfl) wr_9_36 rfl ?_
                refine G_aload_n 2 dr_cX14_word_85 rfl ?_
                refine Gp_get 2 hmq651160 he653650 dr_cX14_word_86 (gk_X14 D I) (Nat.le_of_ble_eq_true rfl) wr_9_38 rfl ?_
                refine Gp_bald 1 hmq651161 he653651 dr_cX14_word_89 rfl (gB_in bg653648' (by decide) (by decide)) (G_nam fun z653676 hz653676 => ?_)
                have bz653676 : gB z653676 (-128) 127 := by rw [hz653676]; exact bf651175 _
                refine Gw_callS (As := [.int z653676]) (gV_ok D I) (cp_649619_Reader_isDigit l hl0 D I P651158 F653649 z653676 ) dr_cX14_word_90 ⟨wr_7_219, wr_1_32, wr_7_221, by decide, rfl, (Nat.le_of_ble_eq_true rfl), (Nat.le_of_ble_eq_true rfl)⟩ wr_7_220 (show 0 + 0 ≤ ((16 * (p651162.toInt - p651163.toInt)).toNat) by first | omega | decide) (show 0 + 0 ≤ ((256 * (p651162.toInt - p651163.toInt)).toNat) by first | omega | decide) (Nat.le_of_ble_eq_true rfl) (fun r653680 w653681 dc653677 ds653678 hp653679 => ?_) (fun _ _ _ _ _ z => z.elim)
                obtain ⟨o653682, rfl, rfl, hdc, hds, bo653682, x653683⟩ := hp653679
                change G _ _ _ _ _ _ _ (.int o653682 :: _) _ _ _
                refine G_widen (cs' := 0) (sl' := 0) (by omega) (by omega) ?_
                refine G_if_eq 136 dr_cX14_word_93 (by decide +kernel) (fun hc653684 => ?_) (fun hc653684 => ?_)
                · have r653685 : o653682.toInt = 0 := gj_eq hc653684 (show Int32.toInt 0 = 0 by decide)
                  have bo653682' : gB o653682 0 0 := ⟨by omega, by omega⟩
                  clear bz651182 he651186 he651187 hfr651188 jn651189 bz653487 bz653491 bo653497 bo653497' he653506 he653507 hfr653508 bo653682 bo653682'; try clear r653495; try clear w653496; try clear dc653492; try clear ds653493; try clear hp653494; try clear x653498; try clear r653501; try clear r653680; try clear w653681; try clear dc653677; try clear ds653678; try clear hp653679; try clear x653683; try clear r653685
                  refine G_aload_n 2 dr_cX14_word_136 rfl ?_
                  refine G_lload_n 0 dr_cX14_word_137 rfl ?_
                  refine G_l2i dr_cX14_word_138 (G_nam fun z653686 hz653686 => ?_)
                  have bz653686 : gB z653686 (-2147483648) 2147483647 := gB_any z653686
                  refine Gp_put 5 hmq651160 he653650 dr_cX14_word_139 (gk_X14 D I) (Nat.le_of_ble_eq_true rfl) wr_9_41 rfl rfl rfl (Nat.le_of_ble_eq_true rfl) (fun F653687 e653688 n653689 => ?_)
                  have he653690 : F653687 q651161 = .inl (I .byte, 8192, .inl f651175) := (n653689 q651161 (rn_ao he653651 he653650)).trans he653651
                  have he653691 : F653687 q651160 = .inr (19, [.ref q651161, .int p651162, .int g653648, .int 6, .int p651165, .int z653686, .int p651167, .ref qo651168, .int p651169, .int p651170, .int p651171, .ref qo651172, .ref qo651173, .int p651174]) := e653688
                  have hfr653692 : rFr [q651160] P651158 F651159 F653687 := rFr_put' List.mem_cons_self hfr653652 n653689
                  refine G_lload_n 0 dr_cX14_word_142 rfl ?_
                  refine G_iload_n 1 dr_cX14_word_143 rfl ?_
                  refine G_bipush 118 dr_cX14_word_144 (by decide +kernel) ?_
                  refine G_icmp_ne 155 dr_cX14_word_146 (by decide +kernel) (fun _ => ?_) (fun hc => absurd (show False by have := gj_eq hc (show Int32.toInt 118 = 118 by decide); omega) not_false)
                  refine G_ldc2 39 dr_cX14_word_155 wr_7_234 ?_
                  refine G_lcmp dr_cX14_word_158 (G_nam fun z653693 hz653693 => ?_)
                  have bz653693 : gB z653693 (-1) 1 := gB_cmp hz653693
                  refine G_if_gt 177 dr_cX14_word_159 (by decide +kernel) (fun hc653694 => ?_) (fun hc653694 => ?_)
                  · have r653695 : 0 < z653693.toInt := gj_ltL hc653694 (show Int32.toInt 0 = 0 by decide)
                    have bz653693' : gB z653693 1 1 := ⟨by omega, by omega⟩
                    have lhc653694 := gC_cmpS hz653693 (by omega)
                    exact G_vretA dr_cX14_word_177 rfl (show 0 ≤ ((16 * (p651162.toInt - p651163.toInt)).toNat) by omega) (show 0 ≤ ((256 * (p651162.toInt - p651163.toInt)).toNat) by omega) ⟨P651158, F653687, g653648, 6, z653686, qo651168, rfl, rfl, (rSub_rf (P := P651158)), hfr653692, he653691, he653690, (by omega), (by omega), (gB_w bg653648' (by decide) (by decide)), (gB_w (gBl (show Int32.toInt 6 = 6 by decide)) (by decide) (by decide)), (by have qa0 : Int32.toInt 6 = 6 := (by decide); omega), (by have qa0 : Int32.toInt 6 = 6 := (by decide); omega), (tP_no (by decide) (by decide)), (vP_no (by decide) (by decide))⟩
                  · have r653696 : z653693.toInt ≤ 0 := gj_nltL hc653694 (show Int32.toInt 0 = 0 by decide)
                    have bz653693' : gB z653693 (-1) 0 := ⟨by omega, by omega⟩
                    refine G_aload_n 2 dr_cX14_word_162 rfl ?_
                    refine G_iload_n 1 dr_cX14_word_163 rfl ?_
                    refine G_bipush 118 dr_cX14_word_164 (by decide +kernel) ?_
                    refine G_icmp_ne 173 dr_cX14_word_166 (by decide +kernel) (fun _ => ?_) (fun hc => absurd (show False by have := gj_eq hc (show Int32.toInt 118 = 118 by decide); omega) not_false)
                    refine G_iconst 3 dr_cX14_word_173 (by decide +kernel) ?_
                    refine Gp_put 3 hmq651160 he653691 dr_cX14_word_174 (gk_X14 D I) (Nat.le_of_ble_eq_true rfl) wr_9_39 rfl rfl rfl (Nat.le_of_ble_eq_true rfl) (fun F653697 e653698 n653699 => ?_)
                    have he653700 : F653697 q651161 = .inl (I .byte, 8192, .inl f651175) := (n653699 q651161 (rn_ao he653690 he653691)).trans he653690
                    have he653701 : F653697 q651160 = .inr (19, [.ref q651161, .int p651162, .int g653648, .int 3, .int p651165, .int z653686, .int p651167, .ref qo651168, .int p651169, .int p651170, .int p651171, .ref qo651172, .ref qo651173, .int p651174]) := e653698
                    have hfr653702 : rFr [q651160] P651158 F651159 F653697 := rFr_put' List.mem_cons_self hfr653692 n653699
                    exact G_vretA dr_cX14_word_177 rfl (show 0 ≤ ((16 * (p651162.toInt - p651163.toInt)).toNat) by omega) (show 0 ≤ ((256 * (p651162.toInt - p651163.toInt)).toNat) by omega) ⟨P651158, F653697, g653648, 3, z653686, qo651168, rfl, rfl, (rSub_rf (P := P651158)), hfr653702, he653701, he653700, (by omega), (by omega), (gB_w bg653648' (by decide) (by decide)), (gB_w (gBl (show Int32.toInt 3 = 3 by decide)) (by decide) (by decide)), (by have qa0 : Int32.toInt 3 = 3 := (by decide); omega), (by have qa0 : Int32.toInt 3 = 3 := (by decide); omega), (tP_no (by decide) (by decide)), (vP_b (by assumption) (by assumption) (by assumption) (by omega))⟩
                · have r653703 : o653682.toInt ≠ 0 := gj_neq hc653684 (show Int32.toInt 0 = 0 by decide)
                  have bo653682' : gB o653682 1 1 := ⟨by omega, by omega⟩
                  have bi653704 : gB z653676 48 57 := isP_1 x653683 (by omega)
                  refine G_lload_n 0 dr_cX14_word_96 rfl ?_
                  refine G_ldc2 10 dr_cX14_word_97 wr_7_229 ?_
                  refine G_lmul dr_cX14_word_100 (G_namL fun u653705 hu653705 => ?_)
                  refine G_aload_n 2 dr_cX14_word_101 rfl ?_
                  refine Gp_get 0 hmq651160 he653650 dr_cX14_word_102 (gk_X14 D I) (Nat.le_of_ble_eq_true rfl) wr_9_36 rfl ?_
                  refine G_aload_n 2 dr_cX14_word_105 rfl ?_
                  refine Gp_get 2 hmq651160 he653650 dr_cX14_word_106 (gk_X14 D I) (Nat.le_of_ble_eq_true rfl) wr_9_38 rfl ?_
                  refine Gp_bald 1 hmq651161 he653651 dr_cX14_word_109 rfl (gB_in bg653648' (by decide) (by decide)) (G_eqi (y := z653676) hz653676.symm ?_)
                  refine G_i2l dr_cX14_word_110 (G_namL fun u653706 hu653706 => ?_)
                  refine G_ladd dr_cX14_word_111 (G_namL fun u653707 hu653707 => ?_)
                  refine G_ldc2 48 dr_cX14_word_112 wr_7_230 ?_
                  refine G_lsub dr_cX14_word_115 (G_namL fun u653708 hu653708 => ?_)
                  refine G_ldc2 1000000 dr_cX14_word_116 wr_7_231 ?_
                  refine Gw_callS (As := [.long u653708, .long 1000000]) (gV_ok D I) (cp_649672_Math_min l hl0 D I P651158 F653649 u653708 1000000 ) dr_cX14_word_119 ⟨wr_7_232, wr_1_6, wr_3_40, by decide, rfl, (Nat.le_of_ble_eq_true rfl), (Nat.le_of_ble_eq_true rfl)⟩ wr_3_39 (show 0 + 0 ≤ ((16 * (p651162.toInt - p651163.toInt)).toNat) by first | omega | decide) (show 0 + 0 ≤ ((256 * (p651162.toInt - p651163.toInt)).toNat) by first | omega | decide) (Nat.le_of_ble_eq_true rfl) (fun r653712 w653713 dc653709 ds653710 hp653711 => ?_) (fun _ _ _ _ _ z => z.elim)
                  obtain ⟨ol653714, rfl, rfl, hdc, hds, x653715⟩ := hp653711
                  change G _ _ _ _ _ _ _ (.long ol653714 :: _) _ _ _
                  refine G_widen (cs' := 0) (sl' := 0) (by omega) (by omega) ?_
                  refine G_lstore_n (L' := [(2, .long ol653714), (1, .int z651182), (0, .ref q651160)]) dr_cX14_word_122 (Nat.le_of_ble_eq_true rfl) rfl ?_
                  refine G_aload_n 2 dr_cX14_word_123 rfl ?_
                  refine G_dup dr_cX14_word_124 rfl ?_
                  refine Gp_get 2 hmq651160 he653650 dr_cX14_word_125 (gk_X14 D I) (Nat.le_of_ble_eq_true rfl) wr_9_38 rfl ?_
                  refine G_iconst 1 dr_cX14_word_128 (by decide +kernel) ?_
                  refine G_iadd dr_cX14_word_129 (G_nam fun z653716 hz653716 => ?_)
                  have ez653716 : z653716.toInt = g653648.toInt + 1 := by rw [gI_add hz653716 bg653648' (gBl (show Int32.toInt 1 = 1 by decide)) (by decide) (by decide), show Int32.toInt 1 = 1 from by decide]
                  have bz653716 : gB z653716 1 8192 := gB_add (gI_add hz653716 bg653648' (gBl (show Int32.toInt 1 = 1 by decide)) (by decide) (by decide)) bg653648' (gBl (show Int32.toInt 1 = 1 by decide)) (by decide) (by decide)
                  refine Gp_put 2 hmq651160 he653650 dr_cX14_word_130 (gk_X14 D I) (Nat.le_of_ble_eq_true rfl) wr_9_38 rfl rfl rfl (Nat.le_of_ble_eq_true rfl) (fun F653717 e653718 n653719 => ?_)
                  have he653720 : F653717 q651161 = .inl (I .byte, 8192, .inl f651175) := (n653719 q651161 (rn_ao he653651 he653650)).trans he653651
                  have he653721 : F653717 q651160 = .inr (19, [.ref q651161, .int p651162, .int z653716, .int 6, .int p651165, .int p651166, .int p651167, .ref qo651168, .int p651169, .int p651170, .int p651171, .ref qo651172, .ref qo651173, .int p651174]) := e653718
                  have hfr653722 : rFr [q651160] P651158 F651159 F653717 := rFr_put' List.mem_cons_self hfr653652 n653719
                  refine G_goto 70 dr_cX14_word_133 (by decide +kernel) ?_
                  exact ih70_653655 F653717 ol653714 z653716 (gB_w bz653716 (by decide) (by decide)) hfr653722 he653721 he653720 (lgSt (by assumption) (by assumption) (by assumption) (by assumption) (by assumption) (by assumption) (by omega) (by omega)) (by have qa0 : Int32.toInt 6 = 6 := (by decide); omega) (by have qa0 : Int32.toInt 6 = 6 := (by decide); omega) (by have qa0 : Int32.toInt 6 = 6 := (by decide); omega)
          exact hlp70_653655 (((8193 : Int) - z653487.toInt).toNat + 1) F653503 0 z653487 (gB_w bz653487' (by decide) (by decide)) hfr653508 he653507 he653506 LG_0 (by have qa0 : Int32.toInt 6 = 6 := (by decide); omega) (by have qa0 : Int32.toInt 6 = 6 := (by decide); omega) (Nat.lt_succ_self _)
