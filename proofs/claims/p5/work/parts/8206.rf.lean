theorem dr_cJ0_indexOf_2f485_0 : decode cJ0_indexOf_2f485 0 = .ok (.aload_n 0, 1) := by decide +kernel
theorem dr_cJ0_indexOf_2f485_1 : decode cJ0_indexOf_2f485 1 = .ok (.invokevirtual 335, 3) := by decide +kernel
theorem dr_cJ0_indexOf_2f485_4 : decode cJ0_indexOf_2f485 4 = .ok (.istore_n 2, 1) := by decide +kernel
theorem dr_cJ0_indexOf_2f485_5 : decode cJ0_indexOf_2f485 5 = .ok (.iload_n 2, 1) := by decide +kernel
theorem dr_cJ0_indexOf_2f485_6 : decode cJ0_indexOf_2f485 6 = .ok (.aload_n 1, 1) := by decide +kernel
theorem dr_cJ0_indexOf_2f485_7 : decode cJ0_indexOf_2f485 7 = .ok (.invokevirtual 335, 3) := by decide +kernel
theorem dr_cJ0_indexOf_2f485_10 : decode cJ0_indexOf_2f485 10 = .ok (.if_icmp .ne 36, 3) := by decide +kernel
theorem dr_cJ0_indexOf_2f485_13 : decode cJ0_indexOf_2f485 13 = .ok (.aload_n 0, 1) := by decide +kernel
theorem dr_cJ0_indexOf_2f485_14 : decode cJ0_indexOf_2f485 14 = .ok (.invokevirtual 492, 3) := by decide +kernel
theorem dr_cJ0_indexOf_2f485_17 : decode cJ0_indexOf_2f485 17 = .ok (.ifCond .eq 17, 3) := by decide +kernel
theorem dr_cJ0_indexOf_2f485_20 : decode cJ0_indexOf_2f485 20 = .ok (.aload_n 0, 1) := by decide +kernel
theorem dr_cJ0_indexOf_2f485_21 : decode cJ0_indexOf_2f485 21 = .ok (.getfield 9, 3) := by decide +kernel
theorem dr_cJ0_indexOf_2f485_24 : decode cJ0_indexOf_2f485 24 = .ok (.aload_n 1, 1) := by decide +kernel
theorem dr_cJ0_indexOf_2f485_25 : decode cJ0_indexOf_2f485 25 = .ok (.getfield 9, 3) := by decide +kernel
theorem dr_cJ0_indexOf_2f485_28 : decode cJ0_indexOf_2f485 28 = .ok (.invokestatic 647, 3) := by decide +kernel
theorem wr_8_196 : (Jvm.Cond.methodLink "java/lang/String" (647 : Nat) ({ cls := "java/lang/StringLatin1", name := "indexOf", desc := "([B[B)I" } : Jvm.MethodName)) ∈ gw := gw_8 196 rfl rfl
theorem wr_8_198 : (Jvm.Cond.code ({ cls := "java/lang/StringLatin1", name := "indexOf", desc := "([B[B)I" } : Jvm.MethodName) prog_37_method_24_code (2 : Nat) (Option.some Jvm.ClassFile.FieldType.int)) ∈ gw := gw_8 198 rfl rfl
theorem wr_8_197 : (Jvm.Cond.static ({ cls := "java/lang/StringLatin1", name := "indexOf", desc := "([B[B)I" } : Jvm.MethodName)) ∈ gw := gw_8 197 rfl rfl
theorem dr_cJ0_indexOf_2f485_31 : decode cJ0_indexOf_2f485 31 = .ok (.goto 14, 3) := by decide +kernel
theorem dr_cJ0_indexOf_2f485_45 : decode cJ0_indexOf_2f485 45 = .ok (.ireturn, 1) := by decide +kernel
theorem dr_cJ1_canEncode_9a6ad_0 : decode cJ1_canEncode_9a6ad 0 = .ok (.iload_n 0, 1) := by decide +kernel
theorem dr_cJ1_canEncode_9a6ad_1 : decode cJ1_canEncode_9a6ad 1 = .ok (.ifCond .lt 14, 3) := by decide +kernel
theorem dr_cJ1_canEncode_9a6ad_15 : decode cJ1_canEncode_9a6ad 15 = .ok (.iconst 0, 1) := by decide +kernel
theorem dr_cJ1_canEncode_9a6ad_16 : decode cJ1_canEncode_9a6ad 16 = .ok (.ireturn, 1) := by decide +kernel
theorem dr_cJ1_canEncode_9a6ad_4 : decode cJ1_canEncode_9a6ad 4 = .ok (.iload_n 0, 1) := by decide +kernel
theorem dr_cJ1_canEncode_9a6ad_5 : decode cJ1_canEncode_9a6ad 5 = .ok (.sipush 255, 3) := by decide +kernel
theorem dr_cJ1_canEncode_9a6ad_8 : decode cJ1_canEncode_9a6ad 8 = .ok (.if_icmp .gt 7, 3) := by decide +kernel
theorem dr_cJ1_canEncode_9a6ad_11 : decode cJ1_canEncode_9a6ad 11 = .ok (.iconst 1, 1) := by decide +kernel
theorem dr_cJ1_canEncode_9a6ad_12 : decode cJ1_canEncode_9a6ad 12 = .ok (.goto 4, 3) := by decide +kernel
theorem dr_cJ1_indexOfChar_4cfef_0 : decode cJ1_indexOfChar_4cfef 0 = .ok (.iload_n 1, 1) := by decide +kernel
theorem dr_cJ1_indexOfChar_4cfef_1 : decode cJ1_indexOfChar_4cfef 1 = .ok (.i2b, 1) := by decide +kernel
theorem dr_cJ1_indexOfChar_4cfef_2 : decode cJ1_indexOfChar_4cfef 2 = .ok (.istore 4, 2) := by decide +kernel
theorem dr_cJ1_indexOfChar_4cfef_4 : decode cJ1_indexOfChar_4cfef 4 = .ok (.iload_n 2, 1) := by decide +kernel
theorem dr_cJ1_indexOfChar_4cfef_5 : decode cJ1_indexOfChar_4cfef 5 = .ok (.istore 5, 2) := by decide +kernel
theorem dr_cJ1_indexOfChar_4cfef_7 : decode cJ1_indexOfChar_4cfef 7 = .ok (.iload 5, 2) := by decide +kernel
theorem dr_cJ1_indexOfChar_4cfef_9 : decode cJ1_indexOfChar_4cfef 9 = .ok (.iload_n 3, 1) := by decide +kernel
theorem dr_cJ1_indexOfChar_4cfef_10 : decode cJ1_indexOfChar_4cfef 10 = .ok (.if_icmp .ge 21, 3) := by decide +kernel
theorem dr_cJ1_indexOfChar_4cfef_31 : decode cJ1_indexOfChar_4cfef 31 = .ok (.iconst (-1), 1) := by decide +kernel
theorem dr_cJ1_indexOfChar_4cfef_32 : decode cJ1_indexOfChar_4cfef 32 = .ok (.ireturn, 1) := by decide +kernel
theorem dr_cJ1_indexOfChar_4cfef_13 : decode cJ1_indexOfChar_4cfef 13 = .ok (.aload_n 0, 1) := by decide +kernel
theorem dr_cJ1_indexOfChar_4cfef_14 : decode cJ1_indexOfChar_4cfef 14 = .ok (.iload 5, 2) := by decide +kernel
theorem dr_cJ1_indexOfChar_4cfef_16 : decode cJ1_indexOfChar_4cfef 16 = .ok (.baload, 1) := by decide +kernel
theorem dr_cJ1_indexOfChar_4cfef_17 : decode cJ1_indexOfChar_4cfef 17 = .ok (.iload 4, 2) := by decide +kernel
theorem dr_cJ1_indexOfChar_4cfef_19 : decode cJ1_indexOfChar_4cfef 19 = .ok (.if_icmp .ne 6, 3) := by decide +kernel
theorem dr_cJ1_indexOfChar_4cfef_25 : decode cJ1_indexOfChar_4cfef 25 = .ok (.iinc 5 1, 3) := by decide +kernel
theorem dr_cJ1_indexOfChar_4cfef_28 : decode cJ1_indexOfChar_4cfef 28 = .ok (.goto (-21), 3) := by decide +kernel
theorem dr_cJ1_indexOfChar_4cfef_22 : decode cJ1_indexOfChar_4cfef 22 = .ok (.iload 5, 2) := by decide +kernel
theorem dr_cJ1_indexOfChar_4cfef_24 : decode cJ1_indexOfChar_4cfef 24 = .ok (.ireturn, 1) := by decide +kernel
theorem dr_cJ1_indexOf_4cfef_0 : decode cJ1_indexOf_4cfef 0 = .ok (.iload_n 1, 1) := by decide +kernel
theorem dr_cJ1_indexOf_4cfef_1 : decode cJ1_indexOf_4cfef 1 = .ok (.invokestatic 88, 3) := by decide +kernel
theorem wr_8_238 : (Jvm.Cond.methodLink "java/lang/StringLatin1" (88 : Nat) ({ cls := "java/lang/StringLatin1", name := "canEncode", desc := "(I)Z" } : Jvm.MethodName)) ∈ gw := gw_8 238 rfl rfl
theorem wr_9_0 : (Jvm.Cond.code ({ cls := "java/lang/StringLatin1", name := "canEncode", desc := "(I)Z" } : Jvm.MethodName) prog_37_method_4_code (1 : Nat) (Option.some Jvm.ClassFile.FieldType.boolean)) ∈ gw := gw_9 0 rfl rfl
theorem wr_8_239 : (Jvm.Cond.static ({ cls := "java/lang/StringLatin1", name := "canEncode", desc := "(I)Z" } : Jvm.MethodName)) ∈ gw := gw_8 239 rfl rfl
theorem dr_cJ1_indexOf_4cfef_4 : decode cJ1_indexOf_4cfef 4 = .ok (.ifCond .ne 5, 3) := by decide +kernel
theorem dr_cJ1_indexOf_4cfef_7 : decode cJ1_indexOf_4cfef 7 = .ok (.iconst (-1), 1) := by decide +kernel
theorem dr_cJ1_indexOf_4cfef_8 : decode cJ1_indexOf_4cfef 8 = .ok (.ireturn, 1) := by decide +kernel
theorem dr_cJ1_indexOf_4cfef_9 : decode cJ1_indexOf_4cfef 9 = .ok (.iload_n 2, 1) := by decide +kernel
theorem dr_cJ1_indexOf_4cfef_10 : decode cJ1_indexOf_4cfef 10 = .ok (.iconst 0, 1) := by decide +kernel
theorem dr_cJ1_indexOf_4cfef_11 : decode cJ1_indexOf_4cfef 11 = .ok (.invokestatic 92, 3) := by decide +kernel
theorem wr_9_1 : (Jvm.Cond.methodLink "java/lang/StringLatin1" (92 : Nat) ({ cls := "java/lang/Math", name := "max", desc := "(II)I" } : Jvm.MethodName)) ∈ gw := gw_9 1 rfl rfl
theorem dr_cJ1_indexOf_4cfef_14 : decode cJ1_indexOf_4cfef 14 = .ok (.istore_n 2, 1) := by decide +kernel
theorem dr_cJ1_indexOf_4cfef_15 : decode cJ1_indexOf_4cfef 15 = .ok (.iload_n 3, 1) := by decide +kernel
theorem dr_cJ1_indexOf_4cfef_16 : decode cJ1_indexOf_4cfef 16 = .ok (.aload_n 0, 1) := by decide +kernel
theorem dr_cJ1_indexOf_4cfef_17 : decode cJ1_indexOf_4cfef 17 = .ok (.arraylength, 1) := by decide +kernel
theorem dr_cJ1_indexOf_4cfef_18 : decode cJ1_indexOf_4cfef 18 = .ok (.invokestatic 38, 3) := by decide +kernel
theorem wr_9_2 : (Jvm.Cond.methodLink "java/lang/StringLatin1" (38 : Nat) ({ cls := "java/lang/Math", name := "min", desc := "(II)I" } : Jvm.MethodName)) ∈ gw := gw_9 2 rfl rfl
theorem dr_cJ1_indexOf_4cfef_21 : decode cJ1_indexOf_4cfef 21 = .ok (.istore_n 3, 1) := by decide +kernel
theorem dr_cJ1_indexOf_4cfef_22 : decode cJ1_indexOf_4cfef 22 = .ok (.iload_n 2, 1) := by decide +kernel
theorem dr_cJ1_indexOf_4cfef_23 : decode cJ1_indexOf_4cfef 23 = .ok (.iload_n 3, 1) := by decide +kernel
theorem dr_cJ1_indexOf_4cfef_24 : decode cJ1_indexOf_4cfef 24 = .ok (.if_icmp .lt 5, 3) := by decide +kernel
theorem dr_cJ1_indexOf_4cfef_29 : decode cJ1_indexOf_4cfef 29 = .ok (.aload_n 0, 1) := by decide +kernel
theorem dr_cJ1_indexOf_4cfef_30 : decode cJ1_indexOf_4cfef 30 = .ok (.iload_n 1, 1) := by decide +kernel
theorem dr_cJ1_indexOf_4cfef_31 : decode cJ1_indexOf_4cfef 31 = .ok (.iload_n 2, 1) := by decide +kernel
theorem dr_cJ1_indexOf_4cfef_32 : decode cJ1_indexOf_4cfef 32 = .ok (.iload_n 3, 1) := by decide +kernel
theorem dr_cJ1_indexOf_4cfef_33 : decode cJ1_indexOf_4cfef 33 = .ok (.invokestatic 95, 3) := by decide +kernel
theorem wr_9_3 : (Jvm.Cond.methodLink "java/lang/StringLatin1" (95 : Nat) ({ cls := "java/lang/StringLatin1", name := "indexOfChar", desc := "([BIII)I" } : Jvm.MethodName)) ∈ gw := gw_9 3 rfl rfl
theorem wr_9_5 : (Jvm.Cond.code ({ cls := "java/lang/StringLatin1", name := "indexOfChar", desc := "([BIII)I" } : Jvm.MethodName) prog_37_method_23_code (6 : Nat) (Option.some Jvm.ClassFile.FieldType.int)) ∈ gw := gw_9 5 rfl rfl
theorem wr_9_4 : (Jvm.Cond.static ({ cls := "java/lang/StringLatin1", name := "indexOfChar", desc := "([BIII)I" } : Jvm.MethodName)) ∈ gw := gw_9 4 rfl rfl
theorem dr_cJ1_indexOf_4cfef_36 : decode cJ1_indexOf_4cfef 36 = .ok (.ireturn, 1) := by decide +kernel
theorem dr_cJ1_indexOf_4cfef_27 : decode cJ1_indexOf_4cfef 27 = .ok (.iconst (-1), 1) := by decide +kernel
theorem dr_cJ1_indexOf_4cfef_28 : decode cJ1_indexOf_4cfef 28 = .ok (.ireturn, 1) := by decide +kernel
theorem dr_cJ0_indexOf_7cf53_0 : decode cJ0_indexOf_7cf53 0 = .ok (.aload_n 0, 1) := by decide +kernel
theorem dr_cJ0_indexOf_7cf53_1 : decode cJ0_indexOf_7cf53 1 = .ok (.invokevirtual 492, 3) := by decide +kernel
theorem dr_cJ0_indexOf_7cf53_4 : decode cJ0_indexOf_7cf53 4 = .ok (.ifCond .eq 19, 3) := by decide +kernel
theorem dr_cJ0_indexOf_7cf53_7 : decode cJ0_indexOf_7cf53 7 = .ok (.aload_n 0, 1) := by decide +kernel
theorem dr_cJ0_indexOf_7cf53_8 : decode cJ0_indexOf_7cf53 8 = .ok (.getfield 9, 3) := by decide +kernel
theorem dr_cJ0_indexOf_7cf53_11 : decode cJ0_indexOf_7cf53 11 = .ok (.iload_n 1, 1) := by decide +kernel
theorem dr_cJ0_indexOf_7cf53_12 : decode cJ0_indexOf_7cf53 12 = .ok (.iload_n 2, 1) := by decide +kernel
theorem dr_cJ0_indexOf_7cf53_13 : decode cJ0_indexOf_7cf53 13 = .ok (.aload_n 0, 1) := by decide +kernel
theorem dr_cJ0_indexOf_7cf53_14 : decode cJ0_indexOf_7cf53 14 = .ok (.invokevirtual 505, 3) := by decide +kernel
theorem wr_8_234 : (Jvm.Cond.methodLink "java/lang/String" (505 : Nat) ({ cls := "java/lang/String", name := "length", desc := "()I" } : Jvm.MethodName)) ∈ gw := gw_8 234 rfl rfl
theorem dr_cJ0_indexOf_7cf53_17 : decode cJ0_indexOf_7cf53 17 = .ok (.invokestatic 637, 3) := by decide +kernel
theorem wr_8_235 : (Jvm.Cond.methodLink "java/lang/String" (637 : Nat) ({ cls := "java/lang/StringLatin1", name := "indexOf", desc := "([BIII)I" } : Jvm.MethodName)) ∈ gw := gw_8 235 rfl rfl
theorem wr_8_237 : (Jvm.Cond.code ({ cls := "java/lang/StringLatin1", name := "indexOf", desc := "([BIII)I" } : Jvm.MethodName) prog_37_method_22_code (4 : Nat) (Option.some Jvm.ClassFile.FieldType.int)) ∈ gw := gw_8 237 rfl rfl
theorem wr_8_236 : (Jvm.Cond.static ({ cls := "java/lang/StringLatin1", name := "indexOf", desc := "([BIII)I" } : Jvm.MethodName)) ∈ gw := gw_8 236 rfl rfl
theorem dr_cJ0_indexOf_7cf53_20 : decode cJ0_indexOf_7cf53 20 = .ok (.goto 16, 3) := by decide +kernel
theorem dr_cJ0_indexOf_7cf53_36 : decode cJ0_indexOf_7cf53 36 = .ok (.ireturn, 1) := by decide +kernel
theorem dr_cJ0_indexOf_0f7a4_0 : decode cJ0_indexOf_0f7a4 0 = .ok (.aload_n 0, 1) := by decide +kernel
theorem dr_cJ0_indexOf_0f7a4_1 : decode cJ0_indexOf_0f7a4 1 = .ok (.iload_n 1, 1) := by decide +kernel
theorem dr_cJ0_indexOf_0f7a4_2 : decode cJ0_indexOf_0f7a4 2 = .ok (.iconst 0, 1) := by decide +kernel
theorem dr_cJ0_indexOf_0f7a4_3 : decode cJ0_indexOf_0f7a4 3 = .ok (.invokevirtual 633, 3) := by decide +kernel
theorem wr_8_230 : (Jvm.Cond.methodLink "java/lang/String" (633 : Nat) ({ cls := "java/lang/String", name := "indexOf", desc := "(II)I" } : Jvm.MethodName)) ∈ gw := gw_8 230 rfl rfl
theorem wr_8_233 : (Jvm.Cond.code ({ cls := "java/lang/String", name := "indexOf", desc := "(II)I" } : Jvm.MethodName) prog_34_method_80_code (3 : Nat) (Option.some Jvm.ClassFile.FieldType.int)) ∈ gw := gw_8 233 rfl rfl
theorem wr_8_231 : (Jvm.Cond.instanceMethod ({ cls := "java/lang/String", name := "indexOf", desc := "(II)I" } : Jvm.MethodName)) ∈ gw := gw_8 231 rfl rfl
theorem wr_8_232 : (Jvm.Cond.selects "java/lang/String" ({ cls := "java/lang/String", name := "indexOf", desc := "(II)I" } : Jvm.MethodName) ({ cls := "java/lang/String", name := "indexOf", desc := "(II)I" } : Jvm.MethodName)) ∈ gw := gw_8 232 rfl rfl
theorem dr_cJ0_indexOf_0f7a4_6 : decode cJ0_indexOf_0f7a4 6 = .ok (.ireturn, 1) := by decide +kernel
theorem dr_cJ6_stringSize_0f7a4_0 : decode cJ6_stringSize_0f7a4 0 = .ok (.iconst 1, 1) := by decide +kernel
theorem dr_cJ6_stringSize_0f7a4_1 : decode cJ6_stringSize_0f7a4 1 = .ok (.istore_n 1, 1) := by decide +kernel
theorem dr_cJ6_stringSize_0f7a4_2 : decode cJ6_stringSize_0f7a4 2 = .ok (.iload_n 0, 1) := by decide +kernel
theorem dr_cJ6_stringSize_0f7a4_3 : decode cJ6_stringSize_0f7a4 3 = .ok (.ifCond .lt 8, 3) := by decide +kernel
theorem dr_cJ6_stringSize_0f7a4_11 : decode cJ6_stringSize_0f7a4 11 = .ok (.bipush (-10), 2) := by decide +kernel
theorem dr_cJ6_stringSize_0f7a4_13 : decode cJ6_stringSize_0f7a4 13 = .ok (.istore_n 2, 1) := by decide +kernel
theorem dr_cJ6_stringSize_0f7a4_14 : decode cJ6_stringSize_0f7a4 14 = .ok (.iconst 1, 1) := by decide +kernel
theorem dr_cJ6_stringSize_0f7a4_15 : decode cJ6_stringSize_0f7a4 15 = .ok (.istore_n 3, 1) := by decide +kernel
theorem dr_cJ6_stringSize_0f7a4_16 : decode cJ6_stringSize_0f7a4 16 = .ok (.iload_n 3, 1) := by decide +kernel
theorem dr_cJ6_stringSize_0f7a4_17 : decode cJ6_stringSize_0f7a4 17 = .ok (.bipush 10, 2) := by decide +kernel
theorem dr_cJ6_stringSize_0f7a4_19 : decode cJ6_stringSize_0f7a4 19 = .ok (.if_icmp .ge 23, 3) := by decide +kernel
theorem dr_cJ6_stringSize_0f7a4_42 : decode cJ6_stringSize_0f7a4 42 = .ok (.bipush 10, 2) := by decide +kernel
theorem dr_cJ6_stringSize_0f7a4_44 : decode cJ6_stringSize_0f7a4 44 = .ok (.iload_n 1, 1) := by decide +kernel
theorem dr_cJ6_stringSize_0f7a4_45 : decode cJ6_stringSize_0f7a4 45 = .ok (.iadd, 1) := by decide +kernel
theorem dr_cJ6_stringSize_0f7a4_46 : decode cJ6_stringSize_0f7a4 46 = .ok (.ireturn, 1) := by decide +kernel
theorem dr_cJ6_stringSize_0f7a4_22 : decode cJ6_stringSize_0f7a4 22 = .ok (.iload_n 0, 1) := by decide +kernel
theorem dr_cJ6_stringSize_0f7a4_23 : decode cJ6_stringSize_0f7a4 23 = .ok (.iload_n 2, 1) := by decide +kernel
theorem dr_cJ6_stringSize_0f7a4_24 : decode cJ6_stringSize_0f7a4 24 = .ok (.if_icmp .le 7, 3) := by decide +kernel
theorem dr_cJ6_stringSize_0f7a4_31 : decode cJ6_stringSize_0f7a4 31 = .ok (.bipush 10, 2) := by decide +kernel
theorem dr_cJ6_stringSize_0f7a4_33 : decode cJ6_stringSize_0f7a4 33 = .ok (.iload_n 2, 1) := by decide +kernel
theorem dr_cJ6_stringSize_0f7a4_34 : decode cJ6_stringSize_0f7a4 34 = .ok (.imul, 1) := by decide +kernel
theorem dr_cJ6_stringSize_0f7a4_35 : decode cJ6_stringSize_0f7a4 35 = .ok (.istore_n 2, 1) := by decide +kernel
theorem dr_cJ6_stringSize_0f7a4_36 : decode cJ6_stringSize_0f7a4 36 = .ok (.iinc 3 1, 3) := by decide +kernel
theorem dr_cJ6_stringSize_0f7a4_39 : decode cJ6_stringSize_0f7a4 39 = .ok (.goto (-23), 3) := by decide +kernel
theorem dr_cJ6_stringSize_0f7a4_27 : decode cJ6_stringSize_0f7a4 27 = .ok (.iload_n 3, 1) := by decide +kernel
theorem dr_cJ6_stringSize_0f7a4_28 : decode cJ6_stringSize_0f7a4 28 = .ok (.iload_n 1, 1) := by decide +kernel
theorem dr_cJ6_stringSize_0f7a4_29 : decode cJ6_stringSize_0f7a4 29 = .ok (.iadd, 1) := by decide +kernel
theorem dr_cJ6_stringSize_0f7a4_30 : decode cJ6_stringSize_0f7a4 30 = .ok (.ireturn, 1) := by decide +kernel
theorem dr_cJ6_stringSize_0f7a4_6 : decode cJ6_stringSize_0f7a4 6 = .ok (.iconst 0, 1) := by decide +kernel
theorem dr_cJ6_stringSize_0f7a4_7 : decode cJ6_stringSize_0f7a4 7 = .ok (.istore_n 1, 1) := by decide +kernel
theorem dr_cJ6_stringSize_0f7a4_8 : decode cJ6_stringSize_0f7a4 8 = .ok (.iload_n 0, 1) := by decide +kernel
theorem dr_cJ6_stringSize_0f7a4_9 : decode cJ6_stringSize_0f7a4 9 = .ok (.ineg, 1) := by decide +kernel
theorem dr_cJ6_stringSize_0f7a4_10 : decode cJ6_stringSize_0f7a4 10 = .ok (.istore_n 0, 1) := by decide +kernel
theorem dr_cJ6_getChars_ba4f3_0 : decode cJ6_getChars_ba4f3 0 = .ok (.iload_n 1, 1) := by decide +kernel
theorem dr_cJ6_getChars_ba4f3_1 : decode cJ6_getChars_ba4f3 1 = .ok (.istore 5, 2) := by decide +kernel
theorem dr_cJ6_getChars_ba4f3_3 : decode cJ6_getChars_ba4f3 3 = .ok (.iload_n 0, 1) := by decide +kernel
theorem dr_cJ6_getChars_ba4f3_4 : decode cJ6_getChars_ba4f3 4 = .ok (.ifCond .ge 7, 3) := by decide +kernel
theorem dr_cJ6_getChars_ba4f3_11 : decode cJ6_getChars_ba4f3 11 = .ok (.iconst 0, 1) := by decide +kernel
theorem dr_cJ6_getChars_ba4f3_12 : decode cJ6_getChars_ba4f3 12 = .ok (.istore 6, 2) := by decide +kernel
theorem dr_cJ6_getChars_ba4f3_14 : decode cJ6_getChars_ba4f3 14 = .ok (.iload 6, 2) := by decide +kernel
theorem dr_cJ6_getChars_ba4f3_16 : decode cJ6_getChars_ba4f3 16 = .ok (.ifCond .ne 6, 3) := by decide +kernel
theorem dr_cJ6_getChars_ba4f3_19 : decode cJ6_getChars_ba4f3 19 = .ok (.iload_n 0, 1) := by decide +kernel
theorem dr_cJ6_getChars_ba4f3_20 : decode cJ6_getChars_ba4f3 20 = .ok (.ineg, 1) := by decide +kernel
theorem dr_cJ6_getChars_ba4f3_21 : decode cJ6_getChars_ba4f3 21 = .ok (.istore_n 0, 1) := by decide +kernel
theorem dr_cJ6_getChars_ba4f3_22 : decode cJ6_getChars_ba4f3 22 = .ok (.iload_n 0, 1) := by decide +kernel
theorem dr_cJ6_getChars_ba4f3_23 : decode cJ6_getChars_ba4f3 23 = .ok (.bipush (-100), 2) := by decide +kernel
theorem dr_cJ6_getChars_ba4f3_25 : decode cJ6_getChars_ba4f3 25 = .ok (.if_icmp .gt 47, 3) := by decide +kernel
theorem dr_cJ6_getChars_ba4f3_72 : decode cJ6_getChars_ba4f3 72 = .ok (.aload_n 2, 1) := by decide +kernel
theorem dr_cJ6_getChars_ba4f3_73 : decode cJ6_getChars_ba4f3 73 = .ok (.iinc 5 (-1), 3) := by decide +kernel
theorem dr_cJ6_getChars_ba4f3_76 : decode cJ6_getChars_ba4f3 76 = .ok (.iload 5, 2) := by decide +kernel
theorem dr_cJ6_getChars_ba4f3_78 : decode cJ6_getChars_ba4f3 78 = .ok (.getstatic 83, 3) := by decide +kernel
theorem wr_8_114 : (Jvm.Cond.fieldLink "java/lang/Integer" (83 : Nat) "java/lang/Integer" "DigitOnes" "[B") ∈ gw := gw_8 114 rfl rfl
theorem dr_cJ6_getChars_ba4f3_81 : decode cJ6_getChars_ba4f3 81 = .ok (.iload_n 0, 1) := by decide +kernel
theorem dr_cJ6_getChars_ba4f3_82 : decode cJ6_getChars_ba4f3 82 = .ok (.ineg, 1) := by decide +kernel
theorem dr_cJ6_getChars_ba4f3_83 : decode cJ6_getChars_ba4f3 83 = .ok (.baload, 1) := by decide +kernel
theorem dr_cJ6_getChars_ba4f3_84 : decode cJ6_getChars_ba4f3 84 = .ok (.bastore, 1) := by decide +kernel
theorem dr_cJ6_getChars_ba4f3_85 : decode cJ6_getChars_ba4f3 85 = .ok (.iload_n 0, 1) := by decide +kernel
theorem dr_cJ6_getChars_ba4f3_86 : decode cJ6_getChars_ba4f3 86 = .ok (.bipush (-9), 2) := by decide +kernel
theorem dr_cJ6_getChars_ba4f3_88 : decode cJ6_getChars_ba4f3 88 = .ok (.if_icmp .ge 16, 3) := by decide +kernel
theorem dr_cJ6_getChars_ba4f3_104 : decode cJ6_getChars_ba4f3 104 = .ok (.iload 6, 2) := by decide +kernel
theorem dr_cJ6_getChars_ba4f3_106 : decode cJ6_getChars_ba4f3 106 = .ok (.ifCond .eq 12, 3) := by decide +kernel
theorem dr_cJ6_getChars_ba4f3_118 : decode cJ6_getChars_ba4f3 118 = .ok (.iload 5, 2) := by decide +kernel
theorem dr_cJ6_getChars_ba4f3_120 : decode cJ6_getChars_ba4f3 120 = .ok (.ireturn, 1) := by decide +kernel
theorem dr_cJ6_getChars_ba4f3_91 : decode cJ6_getChars_ba4f3 91 = .ok (.aload_n 2, 1) := by decide +kernel
theorem dr_cJ6_getChars_ba4f3_92 : decode cJ6_getChars_ba4f3 92 = .ok (.iinc 5 (-1), 3) := by decide +kernel
theorem dr_cJ6_getChars_ba4f3_95 : decode cJ6_getChars_ba4f3 95 = .ok (.iload 5, 2) := by decide +kernel
theorem dr_cJ6_getChars_ba4f3_97 : decode cJ6_getChars_ba4f3 97 = .ok (.getstatic 87, 3) := by decide +kernel
theorem wr_8_116 : (Jvm.Cond.fieldLink "java/lang/Integer" (87 : Nat) "java/lang/Integer" "DigitTens" "[B") ∈ gw := gw_8 116 rfl rfl
theorem dr_cJ6_getChars_ba4f3_100 : decode cJ6_getChars_ba4f3 100 = .ok (.iload_n 0, 1) := by decide +kernel
theorem dr_cJ6_getChars_ba4f3_101 : decode cJ6_getChars_ba4f3 101 = .ok (.ineg, 1) := by decide +kernel
theorem dr_cJ6_getChars_ba4f3_102 : decode cJ6_getChars_ba4f3 102 = .ok (.baload, 1) := by decide +kernel
theorem dr_cJ6_getChars_ba4f3_103 : decode cJ6_getChars_ba4f3 103 = .ok (.bastore, 1) := by decide +kernel
theorem dr_cJ6_getChars_ba4f3_28 : decode cJ6_getChars_ba4f3 28 = .ok (.iload_n 0, 1) := by decide +kernel
theorem dr_cJ6_getChars_ba4f3_29 : decode cJ6_getChars_ba4f3 29 = .ok (.bipush 100, 2) := by decide +kernel
theorem dr_cJ6_getChars_ba4f3_31 : decode cJ6_getChars_ba4f3 31 = .ok (.idiv, 1) := by decide +kernel
theorem dr_cJ6_getChars_ba4f3_32 : decode cJ6_getChars_ba4f3 32 = .ok (.istore_n 3, 1) := by decide +kernel
theorem dr_cJ6_getChars_ba4f3_33 : decode cJ6_getChars_ba4f3 33 = .ok (.iload_n 3, 1) := by decide +kernel
theorem dr_cJ6_getChars_ba4f3_34 : decode cJ6_getChars_ba4f3 34 = .ok (.bipush 100, 2) := by decide +kernel
theorem dr_cJ6_getChars_ba4f3_36 : decode cJ6_getChars_ba4f3 36 = .ok (.imul, 1) := by decide +kernel
theorem dr_cJ6_getChars_ba4f3_37 : decode cJ6_getChars_ba4f3 37 = .ok (.iload_n 0, 1) := by decide +kernel
theorem dr_cJ6_getChars_ba4f3_38 : decode cJ6_getChars_ba4f3 38 = .ok (.isub, 1) := by decide +kernel
theorem dr_cJ6_getChars_ba4f3_39 : decode cJ6_getChars_ba4f3 39 = .ok (.istore 4, 2) := by decide +kernel
theorem dr_cJ6_getChars_ba4f3_41 : decode cJ6_getChars_ba4f3 41 = .ok (.iload_n 3, 1) := by decide +kernel
theorem dr_cJ6_getChars_ba4f3_42 : decode cJ6_getChars_ba4f3 42 = .ok (.istore_n 0, 1) := by decide +kernel
theorem dr_cJ6_getChars_ba4f3_43 : decode cJ6_getChars_ba4f3 43 = .ok (.aload_n 2, 1) := by decide +kernel
theorem dr_cJ6_getChars_ba4f3_44 : decode cJ6_getChars_ba4f3 44 = .ok (.iinc 5 (-1), 3) := by decide +kernel
theorem dr_cJ6_getChars_ba4f3_47 : decode cJ6_getChars_ba4f3 47 = .ok (.iload 5, 2) := by decide +kernel
theorem dr_cJ6_getChars_ba4f3_49 : decode cJ6_getChars_ba4f3 49 = .ok (.getstatic 83, 3) := by decide +kernel
theorem dr_cJ6_getChars_ba4f3_52 : decode cJ6_getChars_ba4f3 52 = .ok (.iload 4, 2) := by decide +kernel
theorem dr_cJ6_getChars_ba4f3_54 : decode cJ6_getChars_ba4f3 54 = .ok (.baload, 1) := by decide +kernel
theorem dr_cJ6_getChars_ba4f3_55 : decode cJ6_getChars_ba4f3 55 = .ok (.bastore, 1) := by decide +kernel
theorem dr_cJ6_getChars_ba4f3_56 : decode cJ6_getChars_ba4f3 56 = .ok (.aload_n 2, 1) := by decide +kernel
theorem dr_cJ6_getChars_ba4f3_57 : decode cJ6_getChars_ba4f3 57 = .ok (.iinc 5 (-1), 3) := by decide +kernel
theorem dr_cJ6_getChars_ba4f3_60 : decode cJ6_getChars_ba4f3 60 = .ok (.iload 5, 2) := by decide +kernel
theorem dr_cJ6_getChars_ba4f3_62 : decode cJ6_getChars_ba4f3 62 = .ok (.getstatic 87, 3) := by decide +kernel
theorem dr_cJ6_getChars_ba4f3_65 : decode cJ6_getChars_ba4f3 65 = .ok (.iload 4, 2) := by decide +kernel
theorem dr_cJ6_getChars_ba4f3_67 : decode cJ6_getChars_ba4f3 67 = .ok (.baload, 1) := by decide +kernel
theorem dr_cJ6_getChars_ba4f3_68 : decode cJ6_getChars_ba4f3 68 = .ok (.bastore, 1) := by decide +kernel
theorem dr_cJ6_getChars_ba4f3_69 : decode cJ6_getChars_ba4f3 69 = .ok (.goto (-47), 3) := by decide +kernel
theorem dr_cJ6_getChars_ba4f3_7 : decode cJ6_getChars_ba4f3 7 = .ok (.iconst 1, 1) := by decide +kernel
theorem dr_cJ6_getChars_ba4f3_8 : decode cJ6_getChars_ba4f3 8 = .ok (.goto 4, 3) := by decide +kernel
theorem dr_cJ6_getChars_ba4f3_109 : decode cJ6_getChars_ba4f3 109 = .ok (.aload_n 2, 1) := by decide +kernel
theorem dr_cJ6_getChars_ba4f3_110 : decode cJ6_getChars_ba4f3 110 = .ok (.iinc 5 (-1), 3) := by decide +kernel
theorem dr_cJ6_getChars_ba4f3_113 : decode cJ6_getChars_ba4f3 113 = .ok (.iload 5, 2) := by decide +kernel
theorem dr_cJ6_getChars_ba4f3_115 : decode cJ6_getChars_ba4f3 115 = .ok (.bipush 45, 2) := by decide +kernel
theorem dr_cJ6_getChars_ba4f3_117 : decode cJ6_getChars_ba4f3 117 = .ok (.bastore, 1) := by decide +kernel
abbrev ky_641623_String_indexOf : gKey := (cJ0_indexOf_2f485, 3, "java/lang/String", (some FieldType.int), [], "indexOf", fun _ _ => True)
def pp_641623_String_indexOf (D : va_G) (I : FieldType → ClassId) (P641610 : List Nat) (F641611 : Nat → va_E) (q641612 : Nat) (q641613 : Nat) (qs641614 : Nat) (qb641615 : Nat) (bs641616 : List Int32) (p641617 : Int32) (p641618 : Int32) (f641619 : Nat → Int32) (n641620 : Nat) : Option Value → va_W → Nat → Nat → Prop := fun r w dc ds => ∃ (o648674 : Int32), r = some (.int o648674) ∧ w = va_pl P641610 F641611 ∧ dc ≤ 0 ∧ ds ≤ 0 ∧ gB o648674 (-2147483646) 16777215 ∧ (o648674.toInt < 0 ∨ o648674.toInt + (n641620 : Int) ≤ (bs641616.length : Int)) ∧ ixP (fun j => bs641616.getD j 0) f641619 o648674
set_option maxRecDepth 100000 in
set_option maxHeartbeats 4000000 in
theorem cp_641623_String_indexOf (l : Launch) (hl0 : l.stackTraces = false) (D : va_G) (I : FieldType → ClassId) (P641610 : List Nat) (F641611 : Nat → va_E) (q641612 : Nat) (q641613 : Nat) (qs641614 : Nat) (qb641615 : Nat) (bs641616 : List Int32) (p641617 : Int32) (p641618 : Int32) (f641619 : Nat → Int32) (n641620 : Nat) (hmq641612 : q641612 ∈ P641610) (hmq641613 : q641613 ∈ P641610) (heq641612 : F641611 q641612 = .inr (0, [.ref q641613, .int 0, .int p641617, .int p641618])) (heq641613 : F641611 q641613 = .inl (I .byte, n641620, .inl f641619)) (hbs641616 : ∀ A s H, (gV D I).2.2.2.1 A s H → gSC qs641614 qb641615 bs641616 A s H) (nbs641616 : (bs641616.length : Int) ≤ 65535) (lbs641616 : gLB bs641616) (bp641618 : gB p641618 0 1) (bf641619 : gF f641619 (-128) 127) (x641621 : 1 ≤ (n641620 : Int)) (x641622 : ((n641620 : Int) ≤ 16777216)) : CtA (gV D I) l yJ0_indexOf_2f485 cJ0_indexOf_2f485 3 (some FieldType.int) 2 51 0 0 [.ref qs641614, .ref q641612] (va_pl P641610 F641611) (pp_641623_String_indexOf D I P641610 F641611 q641612 q641613 qs641614 qb641615 bs641616 p641617 p641618 f641619 n641620) gNA := by
  refine CtA_ofF hl0 (by decide +kernel) (Nat.le_of_ble_eq_true rfl) ?_
  have bp641617 := gB_any p641617
  refine G_aload_n 0 dr_cJ0_indexOf_2f485_0 rfl ?_
  refine Gw_callVk (As := []) (gV_ok D I) (cp_640741_String_coder l hl0 D I P641610 F641611 qs641614 qb641615 bs641616 hbs641616 nbs641616 lbs641616) dr_cJ0_indexOf_2f485_1 ⟨wr_3_61, wr_1_21, wr_3_64, by decide, rfl, (Nat.le_of_ble_eq_true rfl), (Nat.le_of_ble_eq_true rfl)⟩ wr_3_62 wr_3_63 (fun _ _ _ h => (hbs641616 _ _ _ h).1) (show 0 + 0 ≤ 0 by first | omega | decide) (show 0 + 0 ≤ 0 by first | omega | decide) (Nat.le_of_ble_eq_true rfl) (fun r641627 w641628 dc641624 ds641625 hp641626 => ?_) (fun _ _ _ _ _ z => z.elim)
  obtain ⟨rfl, rfl, hdc, hds⟩ := hp641626
  change G _ _ _ _ _ _ _ (.int 0 :: _) _ _ _
  refine G_widen (cs' := 0) (sl' := 0) (by omega) (by omega) ?_
  refine G_istore_n (L' := [(2, .int 0), (0, .ref qs641614), (1, .ref q641612)]) dr_cJ0_indexOf_2f485_4 (Nat.le_of_ble_eq_true rfl) rfl ?_
  refine G_iload_n 0 dr_cJ0_indexOf_2f485_5 rfl ?_
  refine G_aload_n 2 dr_cJ0_indexOf_2f485_6 rfl ?_
  refine Gw_callV (As := []) (gV_ok D I) (cp_640530_String_coder l hl0 D I P641610 F641611 q641612 q641613 p641617 p641618 f641619 n641620 hmq641612 hmq641613 heq641612 heq641613 bp641618 bf641619 (by have qa0 : Int32.toInt 0 = 0 := (by decide); omega)) dr_cJ0_indexOf_2f485_7 ⟨wr_3_61, wr_1_21, wr_3_64, by decide, rfl, (Nat.le_of_ble_eq_true rfl), (Nat.le_of_ble_eq_true rfl)⟩ wr_3_62 wr_3_63 hmq641612 heq641612 rfl (show 0 + 0 ≤ 0 by first | omega | decide) (show 0 + 0 ≤ 0 by first | omega | decide) (Nat.le_of_ble_eq_true rfl) (fun r641632 w641633 dc641629 ds641630 hp641631 => ?_) (fun _ _ _ _ _ z => z.elim)
  obtain ⟨rfl, rfl, hdc, hds⟩ := hp641631
  change G _ _ _ _ _ _ _ (.int 0 :: _) _ _ _
  refine G_widen (cs' := 0) (sl' := 0) (by omega) (by omega) ?_
  refine G_icmp_ne 46 dr_cJ0_indexOf_2f485_10 (by decide +kernel) (fun hc => absurd hc (by decide)) (fun _ => ?_)
  refine G_aload_n 1 dr_cJ0_indexOf_2f485_13 rfl ?_
  refine Gw_callVk (As := []) (gV_ok D I) (cp_641580_String_isLatin1 l hl0 D I P641610 F641611 qs641614 qb641615 bs641616 hbs641616 nbs641616 lbs641616) dr_cJ0_indexOf_2f485_14 ⟨wr_3_71, wr_1_21, wr_3_74, by decide, rfl, (Nat.le_of_ble_eq_true rfl), (Nat.le_of_ble_eq_true rfl)⟩ wr_3_72 wr_3_73 (fun _ _ _ h => (hbs641616 _ _ _ h).1) (show 0 + 0 ≤ 0 by first | omega | decide) (show 0 + 0 ≤ 0 by first | omega | decide) (Nat.le_of_ble_eq_true rfl) (fun r641637 w641638 dc641634 ds641635 hp641636 => ?_) (fun _ _ _ _ _ z => z.elim)
  obtain ⟨rfl, rfl, hdc, hds⟩ := hp641636
  change G _ _ _ _ _ _ _ (.int 1 :: _) _ _ _
  refine G_widen (cs' := 0) (sl' := 0) (by omega) (by omega) ?_
  refine G_if_eq 34 dr_cJ0_indexOf_2f485_17 (by decide +kernel) (fun hc => absurd hc (by decide)) (fun _ => ?_)
  refine G_aload_n 1 dr_cJ0_indexOf_2f485_20 rfl ?_
  refine G_kget dr_cJ0_indexOf_2f485_21 wr_8_178 (fun _ _ _ h => (hbs641616 _ _ _ h).2.2.1) ?_
  refine G_aload_n 2 dr_cJ0_indexOf_2f485_24 rfl ?_
  refine Gp_get 0 hmq641612 heq641612 dr_cJ0_indexOf_2f485_25 (gk_J0 D I) (Nat.le_of_ble_eq_true rfl) wr_8_178 rfl ?_
  refine Gw_callS (As := [.ref qb641615, .ref q641613]) (gV_ok D I) (cp_641648_StringLatin1_indexOf l hl0 D I P641610 F641611 q641613 qb641615 bs641616 f641619 n641620 hmq641613 heq641613 (fun _ _ _ h => (hbs641616 _ _ _ h).2.2.2) (by omega) lbs641616 bf641619 (by have qa0 : Int32.toInt 0 = 0 := (by decide); omega) (by have qa0 : Int32.toInt 0 = 0 := (by decide); omega)) dr_cJ0_indexOf_2f485_28 ⟨wr_8_196, wr_1_28, wr_8_198, by decide, rfl, (Nat.le_of_ble_eq_true rfl), (Nat.le_of_ble_eq_true rfl)⟩ wr_8_197 (show 0 + 0 ≤ 0 by first | omega | decide) (show 0 + 0 ≤ 0 by first | omega | decide) (Nat.le_of_ble_eq_true rfl) (fun r648669 w648670 dc648666 ds648667 hp648668 => ?_) (fun _ _ _ _ _ z => z.elim)
  obtain ⟨o648671, rfl, rfl, hdc, hds, bo648671, x648672, x648673⟩ := hp648668
  change G _ _ _ _ _ _ _ (.int o648671 :: _) _ _ _
  refine G_widen (cs' := 0) (sl' := 0) (by omega) (by omega) ?_
  refine G_goto 45 dr_cJ0_indexOf_2f485_31 (by decide +kernel) ?_
  exact G_iretA dr_cJ0_indexOf_2f485_45 rfl (Nat.le_of_ble_eq_true rfl) (Nat.le_of_ble_eq_true rfl) ⟨o648671, rfl, rfl, (Nat.le_of_ble_eq_true rfl), (Nat.le_of_ble_eq_true rfl), bo648671, (by have qa0 : Int32.toInt 0 = 0 := (by decide); omega), x648673⟩
abbrev ky_648714_StringLatin1_canEncode : gKey := (cJ1_canEncode_9a6ad, 1, "java/lang/StringLatin1", (some FieldType.boolean), [], "canEncode", fun _ _ => True)
def pp_648714_StringLatin1_canEncode (D : va_G) (I : FieldType → ClassId) (P648711 : List Nat) (F648712 : Nat → va_E) (p648713 : Int32) : Option Value → va_W → Nat → Nat → Prop := fun r w dc ds => (r = some (.int 0) ∧ w = va_pl P648711 F648712 ∧ dc ≤ 0 ∧ ds ≤ 0 ∧ p648713.toInt < 0) ∨ (r = some (.int 0) ∧ w = va_pl P648711 F648712 ∧ dc ≤ 0 ∧ ds ≤ 0 ∧ 0 ≤ p648713.toInt ∧ 255 < p648713.toInt) ∨ (r = some (.int 1) ∧ w = va_pl P648711 F648712 ∧ dc ≤ 0 ∧ ds ≤ 0 ∧ 0 ≤ p648713.toInt ∧ p648713.toInt ≤ 255)
set_option maxRecDepth 100000 in
set_option maxHeartbeats 4000000 in
theorem cp_648714_StringLatin1_canEncode (l : Launch) (hl0 : l.stackTraces = false) (D : va_G) (I : FieldType → ClassId) (P648711 : List Nat) (F648712 : Nat → va_E) (p648713 : Int32)  : CtA (gV D I) l yJ1_canEncode_9a6ad cJ1_canEncode_9a6ad 1 (some FieldType.boolean) 0 0 0 0 [.int p648713] (va_pl P648711 F648712) (pp_648714_StringLatin1_canEncode D I P648711 F648712 p648713) gNA := by
  refine CtA_ofF hl0 (by decide +kernel) (Nat.le_of_ble_eq_true rfl) ?_
  have bp648713 := gB_any p648713
  refine G_iload_n 0 dr_cJ1_canEncode_9a6ad_0 rfl ?_
  refine G_if_lt 15 dr_cJ1_canEncode_9a6ad_1 (by decide +kernel) (fun hc648715 => ?_) (fun hc648715 => ?_)
  · have r648716 : p648713.toInt < 0 := gj_lt hc648715 (show Int32.toInt 0 = 0 by decide)
    have bp648713' : gB p648713 (-2147483648) (-1) := ⟨by omega, by omega⟩
    refine G_iconst 0 dr_cJ1_canEncode_9a6ad_15 (by decide +kernel) ?_
    exact G_zretA FieldType.boolean dr_cJ1_canEncode_9a6ad_16 rfl rfl (Nat.le_of_ble_eq_true rfl) (Nat.le_of_ble_eq_true rfl) (Or.inl ⟨rfl, rfl, (Nat.le_of_ble_eq_true rfl), (Nat.le_of_ble_eq_true rfl), r648716⟩)
  · have r648717 : 0 ≤ p648713.toInt := gj_nlt hc648715 (show Int32.toInt 0 = 0 by decide)
    have bp648713' : gB p648713 0 2147483647 := ⟨by omega, by omega⟩
    refine G_iload_n 0 dr_cJ1_canEncode_9a6ad_4 rfl ?_
    refine G_sipush 255 dr_cJ1_canEncode_9a6ad_5 (by decide +kernel) ?_
    refine G_icmp_gt 15 dr_cJ1_canEncode_9a6ad_8 (by decide +kernel) (fun hc648718 => ?_) (fun hc648718 => ?_)
    · have r648719 : 255 < p648713.toInt := gj_ltL hc648718 (show Int32.toInt 255 = 255 by decide)
      have bp648713'' : gB p648713 256 2147483647 := ⟨by omega, by omega⟩
      refine G_iconst 0 dr_cJ1_canEncode_9a6ad_15 (by decide +kernel) ?_
      exact G_zretA FieldType.boolean dr_cJ1_canEncode_9a6ad_16 rfl rfl (Nat.le_of_ble_eq_true rfl) (Nat.le_of_ble_eq_true rfl) (Or.inr (Or.inl ⟨rfl, rfl, (Nat.le_of_ble_eq_true rfl), (Nat.le_of_ble_eq_true rfl), r648717, r648719⟩))
    · have r648720 : p648713.toInt ≤ 255 := gj_nltL hc648718 (show Int32.toInt 255 = 255 by decide)
      have bp648713'' : gB p648713 0 255 := ⟨by omega, by omega⟩
      refine G_iconst 1 dr_cJ1_canEncode_9a6ad_11 (by decide +kernel) ?_
      refine G_goto 16 dr_cJ1_canEncode_9a6ad_12 (by decide +kernel) ?_
      exact G_zretA FieldType.boolean dr_cJ1_canEncode_9a6ad_16 rfl rfl (Nat.le_of_ble_eq_true rfl) (Nat.le_of_ble_eq_true rfl) (Or.inr (Or.inr (⟨rfl, rfl, (Nat.le_of_ble_eq_true rfl), (Nat.le_of_ble_eq_true rfl), r648717, r648720⟩)))
abbrev ky_648745_StringLatin1_indexOfChar : gKey := (cJ1_indexOfChar_4cfef, 6, "java/lang/StringLatin1", (some FieldType.int), [], "indexOfChar", fun _ _ => True)
def pp_648745_StringLatin1_indexOfChar (D : va_G) (I : FieldType → ClassId) (P648737 : List Nat) (F648738 : Nat → va_E) (qs648739 : Nat) (bs648740 : List Int32) (p648741 : Int32) (p648742 : Int32) (p648743 : Int32) : Option Value → va_W → Nat → Nat → Prop := fun r w dc ds => ∃ (o648773 : Int32), r = some (.int o648773) ∧ w = va_pl P648737 F648738 ∧ dc ≤ 0 ∧ ds ≤ 0 ∧ gB o648773 (-1) 65534
set_option maxRecDepth 100000 in
set_option maxHeartbeats 4000000 in
theorem cp_648745_StringLatin1_indexOfChar (l : Launch) (hl0 : l.stackTraces = false) (D : va_G) (I : FieldType → ClassId) (P648737 : List Nat) (F648738 : Nat → va_E) (qs648739 : Nat) (bs648740 : List Int32) (p648741 : Int32) (p648742 : Int32) (p648743 : Int32) (hbs648740 : ∀ A s H, (gV D I).2.2.2.1 A s H → va_T .byte qs648739 bs648740.length (fun j => .int (bs648740.getD j 0)) A s H) (nbs648740 : (bs648740.length : Int) ≤ 65535) (lbs648740 : gLB bs648740) (bp648741 : gB p648741 0 65535) (bp648742 : gB p648742 0 65535) (bp648743 : gB p648743 0 65535) (x648744 : p648743.toInt ≤ (bs648740.length : Int)) : CtA (gV D I) l yJ1_indexOfChar_4cfef cJ1_indexOfChar_4cfef 6 (some FieldType.int) 0 0 0 0 [.ref qs648739, .int p648741, .int p648742, .int p648743] (va_pl P648737 F648738) (pp_648745_StringLatin1_indexOfChar D I P648737 F648738 qs648739 bs648740 p648741 p648742 p648743) gNA := by
  refine CtA_ofF hl0 (by decide +kernel) (Nat.le_of_ble_eq_true rfl) ?_
  refine G_iload_n 1 dr_cJ1_indexOfChar_4cfef_0 rfl ?_
  refine G_i2b dr_cJ1_indexOfChar_4cfef_1 (G_nam fun z648746 hz648746 => ?_)
  have bz648746 : gB z648746 (-128) 127 := gB_i2b hz648746
  refine G_istore (L' := [(4, .int z648746), (0, .ref qs648739), (1, .int p648741), (2, .int p648742), (3, .int p648743)]) dr_cJ1_indexOfChar_4cfef_2 (Nat.le_of_ble_eq_true rfl) rfl ?_
  refine G_iload_n 3 dr_cJ1_indexOfChar_4cfef_4 rfl ?_
  refine G_istore (L' := [(5, .int p648742), (4, .int z648746), (0, .ref qs648739), (1, .int p648741), (2, .int p648742), (3, .int p648743)]) dr_cJ1_indexOfChar_4cfef_5 (Nat.le_of_ble_eq_true rfl) rfl ?_
  have hlp7_648764 : ∀ (n7_648764 : Nat) (g648764 : Int32), gB g648764 0 65535 → ((65536 : Int) - g648764.toInt).toNat < n7_648764 → G (gV D I) l (gRm 0 0 0 0) (gMA (gV D I) (pp_648745_StringLatin1_indexOfChar D I P648737 F648738 qs648739 bs648740 p648741 p648742 p648743) gNA 0 0) ky_648745_StringLatin1_indexOfChar 7 [(5, .int g648764), (4, .int z648746), (0, .ref qs648739), (1, .int p648741), (2, .int p648742), (3, .int p648743)] [] (va_pl P648737 F648738) 0 0 := by
    intro n7_648764
    induction n7_648764 with
    | zero => intro g648764 bg648764 hm7_648764; exact absurd hm7_648764 (Nat.not_lt_zero _)
    | succ n7_648764 ih7_648764 =>
      intro g648764 bg648764 hm7_648764
      refine G_iload 0 dr_cJ1_indexOfChar_4cfef_7 rfl ?_
      refine G_iload_n 5 dr_cJ1_indexOfChar_4cfef_9 rfl ?_
      refine G_icmp_ge 31 dr_cJ1_indexOfChar_4cfef_10 (by decide +kernel) (fun hc648765 => ?_) (fun hc648765 => ?_)
      · have r648766 : p648743.toInt ≤ g648764.toInt := gC_le hc648765
        refine G_iconst (-1) dr_cJ1_indexOfChar_4cfef_31 (by decide +kernel) ?_
        exact G_iretA dr_cJ1_indexOfChar_4cfef_32 rfl (Nat.le_of_ble_eq_true rfl) (Nat.le_of_ble_eq_true rfl) ⟨(-1), rfl, rfl, (Nat.le_of_ble_eq_true rfl), (Nat.le_of_ble_eq_true rfl), (gB_w (gBl (show Int32.toInt (-1) = (-1) by decide)) (by decide) (by decide))⟩
      · have r648767 : g648764.toInt < p648743.toInt := gC_nle hc648765
        have bg648764' : gB g648764 0 65534 := ⟨by omega, by omega⟩
        have bp648743' : gB p648743 1 65535 := ⟨by omega, by omega⟩
        refine G_aload_n 2 dr_cJ1_indexOfChar_4cfef_13 rfl ?_
        refine G_iload 0 dr_cJ1_indexOfChar_4cfef_14 rfl ?_
        refine G_kbald (f := fun j => bs648740.getD j 0) dr_cJ1_indexOfChar_4cfef_16 hbs648740 (gB_inr (by omega) (by omega)) (G_nam fun z648768 hz648768 => ?_)
        have bz648768 : gB z648768 (-2147483648) 2147483647 := gB_any z648768
        refine G_iload 1 dr_cJ1_indexOfChar_4cfef_17 rfl ?_
        refine G_icmp_ne 25 dr_cJ1_indexOfChar_4cfef_19 (by decide +kernel) (fun hc648769 => ?_) (fun hc648769 => ?_)
        · have r648770 : z648768.toInt ≠ z648746.toInt := gC_ne hc648769
          obtain ⟨z648771, hz648771⟩ : ∃ z : Int32, z = g648764 + Int32.ofInt 1 := ⟨_, rfl⟩
          have ez648771 : z648771.toInt = g648764.toInt + 1 := gI_inc hz648771 (by decide) bg648764' (by decide) (by decide)
          have bz648771 : gB z648771 1 65535 := ⟨by omega, by omega⟩
          refine G_iinc (L' := [(5, .int z648771), (4, .int z648746), (0, .ref qs648739), (1, .int p648741), (2, .int p648742), (3, .int p648743)]) z648771 0 dr_cJ1_indexOfChar_4cfef_25 rfl hz648771.symm (Nat.le_of_ble_eq_true rfl) rfl ?_
          refine G_goto 7 dr_cJ1_indexOfChar_4cfef_28 (by decide +kernel) ?_
          exact ih7_648764 z648771 (gB_w bz648771 (by decide) (by decide)) (by omega)
        · have r648772 : z648768.toInt = z648746.toInt := gC_eq hc648769
          have bz648768' : gB z648768 (-128) 127 := ⟨by omega, by omega⟩
          refine G_iload 0 dr_cJ1_indexOfChar_4cfef_22 rfl ?_
          exact G_iretA dr_cJ1_indexOfChar_4cfef_24 rfl (Nat.le_of_ble_eq_true rfl) (Nat.le_of_ble_eq_true rfl) ⟨g648764, rfl, rfl, (Nat.le_of_ble_eq_true rfl), (Nat.le_of_ble_eq_true rfl), (gB_w bg648764' (by decide) (by decide))⟩
  exact hlp7_648764 (((65536 : Int) - p648742.toInt).toNat + 1) p648742 bp648742 (Nat.lt_succ_self _)
abbrev ky_648710_StringLatin1_indexOf : gKey := (cJ1_indexOf_4cfef, 4, "java/lang/StringLatin1", (some FieldType.int), [], "indexOf", fun _ _ => True)
def pp_648710_StringLatin1_indexOf (D : va_G) (I : FieldType → ClassId) (P648702 : List Nat) (F648703 : Nat → va_E) (qs648704 : Nat) (bs648705 : List Int32) (p648706 : Int32) (p648707 : Int32) (p648708 : Int32) : Option Value → va_W → Nat → Nat → Prop := fun r w dc ds => ∃ (o648781 : Int32), r = some (.int o648781) ∧ w = va_pl P648702 F648703 ∧ dc ≤ 0 ∧ ds ≤ 0 ∧ gB o648781 (-1) 65534
set_option maxRecDepth 100000 in
set_option maxHeartbeats 4000000 in
theorem cp_648710_StringLatin1_indexOf (l : Launch) (hl0 : l.stackTraces = false) (D : va_G) (I : FieldType → ClassId) (P648702 : List Nat) (F648703 : Nat → va_E) (qs648704 : Nat) (bs648705 : List Int32) (p648706 : Int32) (p648707 : Int32) (p648708 : Int32) (hbs648705 : ∀ A s H, (gV D I).2.2.2.1 A s H → va_T .byte qs648704 bs648705.length (fun j => .int (bs648705.getD j 0)) A s H) (nbs648705 : (bs648705.length : Int) ≤ 65535) (lbs648705 : gLB bs648705) (bp648706 : gB p648706 0 65535) (bp648707 : gB p648707 0 1) (bp648708 : gB p648708 0 65535) (x648709 : p648708.toInt = (bs648705.length : Int)) : CtA (gV D I) l yJ1_indexOf_4cfef cJ1_indexOf_4cfef 4 (some FieldType.int) 1 25 0 0 [.ref qs648704, .int p648706, .int p648707, .int p648708] (va_pl P648702 F648703) (pp_648710_StringLatin1_indexOf D I P648702 F648703 qs648704 bs648705 p648706 p648707 p648708) gNA := by
  refine CtA_ofF hl0 (by decide +kernel) (Nat.le_of_ble_eq_true rfl) ?_
  refine G_iload_n 1 dr_cJ1_indexOf_4cfef_0 rfl ?_
  refine Gw_callS (As := [.int p648706]) (gV_ok D I) (cp_648714_StringLatin1_canEncode l hl0 D I P648702 F648703 p648706 ) dr_cJ1_indexOf_4cfef_1 ⟨wr_8_238, wr_1_28, wr_9_0, by decide, rfl, (Nat.le_of_ble_eq_true rfl), (Nat.le_of_ble_eq_true rfl)⟩ wr_8_239 (show 0 + 0 ≤ 0 by first | omega | decide) (show 0 + 0 ≤ 0 by first | omega | decide) (Nat.le_of_ble_eq_true rfl) (fun r648724 w648725 dc648721 ds648722 hp648723 => ?_) (fun _ _ _ _ _ z => z.elim)
  rcases hp648723 with ⟨rfl, rfl, hdc, hds, r648726⟩ | ⟨rfl, rfl, hdc, hds, r648727, r648728⟩ | ⟨rfl, rfl, hdc, hds, r648729, r648730⟩
  · exact absurd (show False by omega) not_false
  · have bp648706' : gB p648706 256 65535 := ⟨by omega, by omega⟩
    change G _ _ _ _ _ _ _ (.int 0 :: _) _ _ _
    refine G_widen (cs' := 0) (sl' := 0) (by omega) (by omega) ?_
    refine G_if_ne 9 dr_cJ1_indexOf_4cfef_4 (by decide +kernel) (fun hc => absurd hc (by decide)) (fun _ => ?_)
    refine G_iconst (-1) dr_cJ1_indexOf_4cfef_7 (by decide +kernel) ?_
    exact G_iretA dr_cJ1_indexOf_4cfef_8 rfl (Nat.le_of_ble_eq_true rfl) (Nat.le_of_ble_eq_true rfl) ⟨(-1), rfl, rfl, (Nat.le_of_ble_eq_true rfl), (Nat.le_of_ble_eq_true rfl), (gB_w (gBl (show Int32.toInt (-1) = (-1) by decide)) (by decide) (by decide))⟩
  · have bp648706' : gB p648706 0 255 := ⟨by omega, by omega⟩
    change G _ _ _ _ _ _ _ (.int 1 :: _) _ _ _
    refine G_widen (cs' := 0) (sl' := 0) (by omega) (by omega) ?_
    refine G_if_ne 9 dr_cJ1_indexOf_4cfef_4 (by decide +kernel) (fun _ => ?_) (fun hc => absurd hc (by decide))
    refine G_iload_n 2 dr_cJ1_indexOf_4cfef_9 rfl ?_
    refine G_iconst 0 dr_cJ1_indexOf_4cfef_10 (by decide +kernel) ?_
    refine G_mmax dr_cJ1_indexOf_4cfef_11 wr_9_1 wr_1_140 wr_1_6 wr_1_141 (Nat.le_of_ble_eq_true rfl) (Nat.le_of_ble_eq_true rfl) (show 0 ≤ 0 by first | omega | decide) (show 0 ≤ 0 by first | omega | decide) (G_nam fun z648732 hz648732 => ?_)
    have ez648732 : p648707.toInt ≤ z648732.toInt ∧ 0 ≤ z648732.toInt ∧ (z648732.toInt = p648707.toInt ∨ z648732.toInt = 0) := by have := gI_max hz648732; rw [show Int32.toInt 0 = 0 from by decide] at this; omega
    have bz648732 : gB z648732 0 1 := ⟨by omega, by omega⟩
    refine G_istore_n (L' := [(2, .int z648732), (0, .ref qs648704), (1, .int p648706), (3, .int p648708)]) dr_cJ1_indexOf_4cfef_14 (Nat.le_of_ble_eq_true rfl) rfl ?_
    refine G_iload_n 3 dr_cJ1_indexOf_4cfef_15 rfl ?_
    refine G_aload_n 1 dr_cJ1_indexOf_4cfef_16 rfl ?_
    refine G_klen dr_cJ1_indexOf_4cfef_17 hbs648705 (G_nam fun z648733 hz648733 => ?_)
    have ez648733 : z648733.toInt = (bs648705.length : Int) := gI_ofN hz648733 nbs648705
    have bz648733 : gB z648733 0 65535 := ⟨by omega, by omega⟩
    refine G_mmin dr_cJ1_indexOf_4cfef_18 wr_9_2 wr_3_227 wr_1_6 wr_3_228 (Nat.le_of_ble_eq_true rfl) (Nat.le_of_ble_eq_true rfl) (show 0 ≤ 0 by first | omega | decide) (show 0 ≤ 0 by first | omega | decide) (G_nam fun z648734 hz648734 => ?_)
    have ez648734 : p648708.toInt ≥ z648734.toInt ∧ z648733.toInt ≥ z648734.toInt ∧ (z648734.toInt = p648708.toInt ∨ z648734.toInt = z648733.toInt) := by have := gI_min hz648734; omega
    have bz648734 : gB z648734 0 65535 := ⟨by omega, by omega⟩
    refine G_istore_n (L' := [(3, .int z648734), (2, .int z648732), (0, .ref qs648704), (1, .int p648706)]) dr_cJ1_indexOf_4cfef_21 (Nat.le_of_ble_eq_true rfl) rfl ?_
    refine G_iload_n 1 dr_cJ1_indexOf_4cfef_22 rfl ?_
    refine G_iload_n 0 dr_cJ1_indexOf_4cfef_23 rfl ?_
    refine G_icmp_lt 29 dr_cJ1_indexOf_4cfef_24 (by decide +kernel) (fun hc648735 => ?_) (fun hc648735 => ?_)
    · have r648736 : z648732.toInt < z648734.toInt := gC_lt hc648735
      have bz648734' : gB z648734 1 65535 := ⟨by omega, by omega⟩
      refine G_aload_n 2 dr_cJ1_indexOf_4cfef_29 rfl ?_
      refine G_iload_n 3 dr_cJ1_indexOf_4cfef_30 rfl ?_
      refine G_iload_n 1 dr_cJ1_indexOf_4cfef_31 rfl ?_
      refine G_iload_n 0 dr_cJ1_indexOf_4cfef_32 rfl ?_
      refine Gw_callS (As := [.ref qs648704, .int p648706, .int z648732, .int z648734]) (gV_ok D I) (cp_648745_StringLatin1_indexOfChar l hl0 D I P648702 F648703 qs648704 bs648705 p648706 z648732 z648734 hbs648705 nbs648705 lbs648705 (gB_w bp648706' (by decide) (by decide)) (gB_w bz648732 (by decide) (by decide)) (gB_w bz648734' (by decide) (by decide)) (by omega)) dr_cJ1_indexOf_4cfef_33 ⟨wr_9_3, wr_1_28, wr_9_5, by decide, rfl, (Nat.le_of_ble_eq_true rfl), (Nat.le_of_ble_eq_true rfl)⟩ wr_9_4 (show 0 + 0 ≤ 0 by first | omega | decide) (show 0 + 0 ≤ 0 by first | omega | decide) (Nat.le_of_ble_eq_true rfl) (fun r648777 w648778 dc648774 ds648775 hp648776 => ?_) (fun _ _ _ _ _ z => z.elim)
      obtain ⟨o648779, rfl, rfl, hdc, hds, bo648779⟩ := hp648776
      change G _ _ _ _ _ _ _ (.int o648779 :: _) _ _ _
      refine G_widen (cs' := 0) (sl' := 0) (by omega) (by omega) ?_
      exact G_iretA dr_cJ1_indexOf_4cfef_36 rfl (Nat.le_of_ble_eq_true rfl) (Nat.le_of_ble_eq_true rfl) ⟨o648779, rfl, rfl, (Nat.le_of_ble_eq_true rfl), (Nat.le_of_ble_eq_true rfl), bo648779⟩
    · have r648780 : z648734.toInt ≤ z648732.toInt := gC_nlt hc648735
      have bz648734' : gB z648734 0 1 := ⟨by omega, by omega⟩
      refine G_iconst (-1) dr_cJ1_indexOf_4cfef_27 (by decide +kernel) ?_
      exact G_iretA dr_cJ1_indexOf_4cfef_28 rfl (Nat.le_of_ble_eq_true rfl) (Nat.le_of_ble_eq_true rfl) ⟨(-1), rfl, rfl, (Nat.le_of_ble_eq_true rfl), (Nat.le_of_ble_eq_true rfl), (gB_w (gBl (show Int32.toInt (-1) = (-1) by decide)) (by decide) (by decide))⟩
abbrev ky_648689_String_indexOf : gKey := (cJ0_indexOf_7cf53, 3, "java/lang/String", (some FieldType.int), [], "indexOf", fun _ _ => True)
def pp_648689_String_indexOf (D : va_G) (I : FieldType → ClassId) (P648682 : List Nat) (F648683 : Nat → va_E) (qs648684 : Nat) (qb648685 : Nat) (bs648686 : List Int32) (p648687 : Int32) (p648688 : Int32) : Option Value → va_W → Nat → Nat → Prop := fun r w dc ds => ∃ (o648788 : Int32), r = some (.int o648788) ∧ w = va_pl P648682 F648683 ∧ dc ≤ 0 ∧ ds ≤ 0 ∧ gB o648788 (-1) 65534
set_option maxRecDepth 100000 in
set_option maxHeartbeats 4000000 in
theorem cp_648689_String_indexOf (l : Launch) (hl0 : l.stackTraces = false) (D : va_G) (I : FieldType → ClassId) (P648682 : List Nat) (F648683 : Nat → va_E) (qs648684 : Nat) (qb648685 : Nat) (bs648686 : List Int32) (p648687 : Int32) (p648688 : Int32) (hbs648686 : ∀ A s H, (gV D I).2.2.2.1 A s H → gSC qs648684 qb648685 bs648686 A s H) (nbs648686 : (bs648686.length : Int) ≤ 65535) (lbs648686 : gLB bs648686) (bp648687 : gB p648687 0 65535) (bp648688 : gB p648688 0 1) : CtA (gV D I) l yJ0_indexOf_7cf53 cJ0_indexOf_7cf53 3 (some FieldType.int) 2 48 0 0 [.ref qs648684, .int p648687, .int p648688] (va_pl P648682 F648683) (pp_648689_String_indexOf D I P648682 F648683 qs648684 qb648685 bs648686 p648687 p648688) gNA := by
  refine CtA_ofF hl0 (by decide +kernel) (Nat.le_of_ble_eq_true rfl) ?_
  refine G_aload_n 0 dr_cJ0_indexOf_7cf53_0 rfl ?_
  refine Gw_callVk (As := []) (gV_ok D I) (cp_641580_String_isLatin1 l hl0 D I P648682 F648683 qs648684 qb648685 bs648686 hbs648686 nbs648686 lbs648686) dr_cJ0_indexOf_7cf53_1 ⟨wr_3_71, wr_1_21, wr_3_74, by decide, rfl, (Nat.le_of_ble_eq_true rfl), (Nat.le_of_ble_eq_true rfl)⟩ wr_3_72 wr_3_73 (fun _ _ _ h => (hbs648686 _ _ _ h).1) (show 0 + 0 ≤ 0 by first | omega | decide) (show 0 + 0 ≤ 0 by first | omega | decide) (Nat.le_of_ble_eq_true rfl) (fun r648693 w648694 dc648690 ds648691 hp648692 => ?_) (fun _ _ _ _ _ z => z.elim)
  obtain ⟨rfl, rfl, hdc, hds⟩ := hp648692
  change G _ _ _ _ _ _ _ (.int 1 :: _) _ _ _
  refine G_widen (cs' := 0) (sl' := 0) (by omega) (by omega) ?_
  refine G_if_eq 23 dr_cJ0_indexOf_7cf53_4 (by decide +kernel) (fun hc => absurd hc (by decide)) (fun _ => ?_)
  refine G_aload_n 0 dr_cJ0_indexOf_7cf53_7 rfl ?_
  refine G_kget dr_cJ0_indexOf_7cf53_8 wr_8_178 (fun _ _ _ h => (hbs648686 _ _ _ h).2.2.1) ?_
  refine G_iload_n 1 dr_cJ0_indexOf_7cf53_11 rfl ?_
  refine G_iload_n 2 dr_cJ0_indexOf_7cf53_12 rfl ?_
  refine G_aload_n 0 dr_cJ0_indexOf_7cf53_13 rfl ?_
  refine Gw_callVk (As := []) (gV_ok D I) (cp_640734_String_length l hl0 D I P648682 F648683 qs648684 qb648685 bs648686 hbs648686 nbs648686 lbs648686) dr_cJ0_indexOf_7cf53_14 ⟨wr_8_234, wr_1_21, wr_3_60, by decide, rfl, (Nat.le_of_ble_eq_true rfl), (Nat.le_of_ble_eq_true rfl)⟩ wr_3_58 wr_3_59 (fun _ _ _ h => (hbs648686 _ _ _ h).1) (show 0 + 0 ≤ 0 by first | omega | decide) (show 0 + 0 ≤ 0 by first | omega | decide) (Nat.le_of_ble_eq_true rfl) (fun r648698 w648699 dc648695 ds648696 hp648697 => ?_) (fun _ _ _ _ _ z => z.elim)
  obtain ⟨o648700, rfl, rfl, hdc, hds, bo648700, x648701⟩ := hp648697
  change G _ _ _ _ _ _ _ (.int o648700 :: _) _ _ _
  refine G_widen (cs' := 0) (sl' := 0) (by omega) (by omega) ?_
  refine Gw_callS (As := [.ref qb648685, .int p648687, .int p648688, .int o648700]) (gV_ok D I) (cp_648710_StringLatin1_indexOf l hl0 D I P648682 F648683 qb648685 bs648686 p648687 p648688 o648700 (fun _ _ _ h => (hbs648686 _ _ _ h).2.2.2) (by omega) lbs648686 bp648687 bp648688 bo648700 (by omega)) dr_cJ0_indexOf_7cf53_17 ⟨wr_8_235, wr_1_28, wr_8_237, by decide, rfl, (Nat.le_of_ble_eq_true rfl), (Nat.le_of_ble_eq_true rfl)⟩ wr_8_236 (show 0 + 0 ≤ 0 by first | omega | decide) (show 0 + 0 ≤ 0 by first | omega | decide) (Nat.le_of_ble_eq_true rfl) (fun r648785 w648786 dc648782 ds648783 hp648784 => ?_) (fun _ _ _ _ _ z => z.elim)
  obtain ⟨o648787, rfl, rfl, hdc, hds, bo648787⟩ := hp648784
  change G _ _ _ _ _ _ _ (.int o648787 :: _) _ _ _
  refine G_widen (cs' := 0) (sl' := 0) (by omega) (by omega) ?_
  refine G_goto 36 dr_cJ0_indexOf_7cf53_20 (by decide +kernel) ?_
  exact G_iretA dr_cJ0_indexOf_7cf53_36 rfl (Nat.le_of_ble_eq_true rfl) (Nat.le_of_ble_eq_true rfl) ⟨o648787, rfl, rfl, (Nat.le_of_ble_eq_true rfl), (Nat.le_of_ble_eq_true rfl), bo648787⟩
abbrev ky_648681_String_indexOf : gKey := (cJ0_indexOf_0f7a4, 2, "java/lang/String", (some FieldType.int), [], "indexOf", fun _ _ => True)
def pp_648681_String_indexOf (D : va_G) (I : FieldType → ClassId) (P648675 : List Nat) (F648676 : Nat → va_E) (qs648677 : Nat) (qb648678 : Nat) (bs648679 : List Int32) (p648680 : Int32) : Option Value → va_W → Nat → Nat → Prop := fun r w dc ds => ∃ (o648795 : Int32), r = some (.int o648795) ∧ w = va_pl P648675 F648676 ∧ dc ≤ 0 ∧ ds ≤ 0 ∧ gB o648795 (-1) 65534
set_option maxRecDepth 100000 in
set_option maxHeartbeats 4000000 in
theorem cp_648681_String_indexOf (l : Launch) (hl0 : l.stackTraces = false) (D : va_G) (I : FieldType → ClassId) (P648675 : List Nat) (F648676 : Nat → va_E) (qs648677 : Nat) (qb648678 : Nat) (bs648679 : List Int32) (p648680 : Int32) (hbs648679 : ∀ A s H, (gV D I).2.2.2.1 A s H → gSC qs648677 qb648678 bs648679 A s H) (nbs648679 : (bs648679.length : Int) ≤ 65535) (lbs648679 : gLB bs648679) (bp648680 : gB p648680 0 65535) : CtA (gV D I) l yJ0_indexOf_0f7a4 cJ0_indexOf_0f7a4 2 (some FieldType.int) 3 70 0 0 [.ref qs648677, .int p648680] (va_pl P648675 F648676) (pp_648681_String_indexOf D I P648675 F648676 qs648677 qb648678 bs648679 p648680) gNA := by
  refine CtA_ofF hl0 (by decide +kernel) (Nat.le_of_ble_eq_true rfl) ?_
  refine G_aload_n 0 dr_cJ0_indexOf_0f7a4_0 rfl ?_
  refine G_iload_n 1 dr_cJ0_indexOf_0f7a4_1 rfl ?_
  refine G_iconst 0 dr_cJ0_indexOf_0f7a4_2 (by decide +kernel) ?_
  refine Gw_callVk (As := [.int p648680, .int 0]) (gV_ok D I) (cp_648689_String_indexOf l hl0 D I P648675 F648676 qs648677 qb648678 bs648679 p648680 0 hbs648679 nbs648679 lbs648679 bp648680 (gB_w (gBl (show Int32.toInt 0 = 0 by decide)) (by decide) (by decide))) dr_cJ0_indexOf_0f7a4_3 ⟨wr_8_230, wr_1_21, wr_8_233, by decide, rfl, (Nat.le_of_ble_eq_true rfl), (Nat.le_of_ble_eq_true rfl)⟩ wr_8_231 wr_8_232 (fun _ _ _ h => (hbs648679 _ _ _ h).1) (show 0 + 0 ≤ 0 by first | omega | decide) (show 0 + 0 ≤ 0 by first | omega | decide) (Nat.le_of_ble_eq_true rfl) (fun r648792 w648793 dc648789 ds648790 hp648791 => ?_) (fun _ _ _ _ _ z => z.elim)
  obtain ⟨o648794, rfl, rfl, hdc, hds, bo648794⟩ := hp648791
  change G _ _ _ _ _ _ _ (.int o648794 :: _) _ _ _
  refine G_widen (cs' := 0) (sl' := 0) (by omega) (by omega) ?_
  exact G_iretA dr_cJ0_indexOf_0f7a4_6 rfl (Nat.le_of_ble_eq_true rfl) (Nat.le_of_ble_eq_true rfl) ⟨o648794, rfl, rfl, (Nat.le_of_ble_eq_true rfl), (Nat.le_of_ble_eq_true rfl), bo648794⟩
abbrev ky_648825_Integer_stringSize : gKey := (cJ6_stringSize_0f7a4, 4, "java/lang/Integer", (some FieldType.int), [], "stringSize", fun _ _ => True)
def pp_648825_Integer_stringSize (D : va_G) (I : FieldType → ClassId) (P648822 : List Nat) (F648823 : Nat → va_E) (p648824 : Int32) : Option Value → va_W → Nat → Nat → Prop := fun r w dc ds => ∃ (o648952 : Int32), r = some (.int o648952) ∧ w = va_pl P648822 F648823 ∧ dc ≤ 0 ∧ ds ≤ 0 ∧ gB o648952 1 11 ∧ dgS p648824.toInt o648952.toInt
set_option maxRecDepth 100000 in
set_option maxHeartbeats 4000000 in
theorem cp_648825_Integer_stringSize (l : Launch) (hl0 : l.stackTraces = false) (D : va_G) (I : FieldType → ClassId) (P648822 : List Nat) (F648823 : Nat → va_E) (p648824 : Int32)  : CtA (gV D I) l yJ6_stringSize_0f7a4 cJ6_stringSize_0f7a4 4 (some FieldType.int) 0 0 0 0 [.int p648824] (va_pl P648822 F648823) (pp_648825_Integer_stringSize D I P648822 F648823 p648824) gNA := by
  refine CtA_ofF hl0 (by decide +kernel) (Nat.le_of_ble_eq_true rfl) ?_
  have bp648824 := gB_any p648824
  refine G_iconst 1 dr_cJ6_stringSize_0f7a4_0 (by decide +kernel) ?_
  refine G_istore_n (L' := [(1, .int 1), (0, .int p648824)]) dr_cJ6_stringSize_0f7a4_1 (Nat.le_of_ble_eq_true rfl) rfl ?_
  refine G_iload_n 1 dr_cJ6_stringSize_0f7a4_2 rfl ?_
  refine G_if_lt 11 dr_cJ6_stringSize_0f7a4_3 (by decide +kernel) (fun hc648826 => ?_) (fun hc648826 => ?_)
  · have r648827 : p648824.toInt < 0 := gj_lt hc648826 (show Int32.toInt 0 = 0 by decide)
    have bp648824' : gB p648824 (-2147483648) (-1) := ⟨by omega, by omega⟩
    refine G_bipush (-10) dr_cJ6_stringSize_0f7a4_11 (by decide +kernel) ?_
    refine G_istore_n (L' := [(2, .int (-10)), (1, .int 1), (0, .int p648824)]) dr_cJ6_stringSize_0f7a4_13 (Nat.le_of_ble_eq_true rfl) rfl ?_
    refine G_iconst 1 dr_cJ6_stringSize_0f7a4_14 (by decide +kernel) ?_
    refine G_istore_n (L' := [(3, .int 1), (2, .int (-10)), (1, .int 1), (0, .int p648824)]) dr_cJ6_stringSize_0f7a4_15 (Nat.le_of_ble_eq_true rfl) rfl ?_
    have hlp16_648879 : ∀ (n16_648879 : Nat) (g648877 : Int32) (g648878 : Int32), gB g648877 1 10 → ssI g648877 g648878 → ((11 : Int) - g648877.toInt).toNat < n16_648879 → G (gV D I) l (gRm 0 0 0 0) (gMA (gV D I) (pp_648825_Integer_stringSize D I P648822 F648823 p648824) gNA 0 0) ky_648825_Integer_stringSize 16 [(3, .int g648877), (2, .int g648878), (1, .int 1), (0, .int p648824)] [] (va_pl P648822 F648823) 0 0 := by
      intro n16_648879
      induction n16_648879 with
      | zero => intro g648877 g648878 bg648877 x648879 hm16_648879; exact absurd hm16_648879 (Nat.not_lt_zero _)
      | succ n16_648879 ih16_648879 =>
        intro g648877 g648878 bg648877 x648879 hm16_648879
        have bg648878 := gB_any g648878
        refine G_iload_n 0 dr_cJ6_stringSize_0f7a4_16 rfl ?_
        refine G_bipush 10 dr_cJ6_stringSize_0f7a4_17 (by decide +kernel) ?_
        refine G_icmp_ge 42 dr_cJ6_stringSize_0f7a4_19 (by decide +kernel) (fun hc648880 => ?_) (fun hc648880 => ?_)
        · have r648881 : 10 ≤ g648877.toInt := gj_leL hc648880 (show Int32.toInt 10 = 10 by decide)
          have bg648877' : gB g648877 10 10 := ⟨by omega, by omega⟩
          refine G_bipush 10 dr_cJ6_stringSize_0f7a4_42 (by decide +kernel) ?_
          refine G_iload_n 2 dr_cJ6_stringSize_0f7a4_44 rfl ?_
          refine G_iadd dr_cJ6_stringSize_0f7a4_45 ?_
          refine G_eqi (y := 11) (by decide) ?_
          exact G_iretA dr_cJ6_stringSize_0f7a4_46 rfl (Nat.le_of_ble_eq_true rfl) (Nat.le_of_ble_eq_true rfl) ⟨11, rfl, rfl, (Nat.le_of_ble_eq_true rfl), (Nat.le_of_ble_eq_true rfl), (gB_w (gBl (show Int32.toInt 11 = 11 by decide)) (by decide) (by decide)), (by have q10 : Int32.toInt 10 = 10 := (by decide); have q11 : Int32.toInt 11 = 11 := (by decide); first | exact dgS_p (x := -p648824.toInt) (by omega) rfl (dgB_up (ssI_r x648879 (by omega) (fun _ => by omega)) (by omega) (by omega)) | exact dgS_n (by omega) (by omega) (ssI_r x648879 (by omega) (fun _ => by omega)))⟩
        · have r648882 : g648877.toInt < 10 := gj_nleL hc648880 (show Int32.toInt 10 = 10 by decide)
          have bg648877' : gB g648877 1 9 := ⟨by omega, by omega⟩
          refine G_iload_n 3 dr_cJ6_stringSize_0f7a4_22 rfl ?_
          refine G_iload_n 1 dr_cJ6_stringSize_0f7a4_23 rfl ?_
          refine G_icmp_le 31 dr_cJ6_stringSize_0f7a4_24 (by decide +kernel) (fun hc648883 => ?_) (fun hc648883 => ?_)
          · have r648884 : p648824.toInt ≤ g648878.toInt := gC_le hc648883
            refine G_bipush 10 dr_cJ6_stringSize_0f7a4_31 (by decide +kernel) ?_
            refine G_iload_n 1 dr_cJ6_stringSize_0f7a4_33 rfl ?_
            refine G_imul dr_cJ6_stringSize_0f7a4_34 (G_nam fun z648885 hz648885 => ?_)
            have bz648885 : gB z648885 (-2147483648) 2147483647 := gB_any z648885
            refine G_istore_n (L' := [(2, .int z648885), (3, .int g648877), (1, .int 1), (0, .int p648824)]) dr_cJ6_stringSize_0f7a4_35 (Nat.le_of_ble_eq_true rfl) rfl ?_
            obtain ⟨z648886, hz648886⟩ : ∃ z : Int32, z = g648877 + Int32.ofInt 1 := ⟨_, rfl⟩
            have ez648886 : z648886.toInt = g648877.toInt + 1 := gI_inc hz648886 (by decide) bg648877' (by decide) (by decide)
            have bz648886 : gB z648886 2 10 := ⟨by omega, by omega⟩
            refine G_iinc (L' := [(3, .int z648886), (2, .int z648885), (1, .int 1), (0, .int p648824)]) z648886 1 dr_cJ6_stringSize_0f7a4_36 rfl hz648886.symm (Nat.le_of_ble_eq_true rfl) rfl ?_
            refine G_goto 16 dr_cJ6_stringSize_0f7a4_39 (by decide +kernel) ?_
            exact ih16_648879 z648886 z648885 (gB_w bz648886 (by decide) (by decide)) (ssI_st x648879 (by omega) (by omega) hz648885) (by have qa0 : Int32.toInt 1 = 1 := (by decide); omega)
          · have r648887 : g648878.toInt < p648824.toInt := gC_nle hc648883
            have bg648878' : gB g648878 (-2147483648) (-2) := ⟨by omega, by omega⟩
            have bp648824'' : gB p648824 (-2147483647) (-1) := ⟨by omega, by omega⟩
            refine G_iload_n 0 dr_cJ6_stringSize_0f7a4_27 rfl ?_
            refine G_iload_n 2 dr_cJ6_stringSize_0f7a4_28 rfl ?_
            refine G_iadd dr_cJ6_stringSize_0f7a4_29 (G_nam fun z648888 hz648888 => ?_)
            have ez648888 : z648888.toInt = g648877.toInt + 1 := by rw [gI_add hz648888 bg648877' (gBl (show Int32.toInt 1 = 1 by decide)) (by decide) (by decide), show Int32.toInt 1 = 1 from by decide]
            have bz648888 : gB z648888 2 10 := gB_add (gI_add hz648888 bg648877' (gBl (show Int32.toInt 1 = 1 by decide)) (by decide) (by decide)) bg648877' (gBl (show Int32.toInt 1 = 1 by decide)) (by decide) (by decide)
            exact G_iretA dr_cJ6_stringSize_0f7a4_30 rfl (Nat.le_of_ble_eq_true rfl) (Nat.le_of_ble_eq_true rfl) ⟨z648888, rfl, rfl, (Nat.le_of_ble_eq_true rfl), (Nat.le_of_ble_eq_true rfl), (gB_w bz648888 (by decide) (by decide)), (by have q10 : Int32.toInt 10 = 10 := (by decide); have q11 : Int32.toInt 11 = 11 := (by decide); first | exact dgS_p (x := -p648824.toInt) (by omega) rfl (dgB_up (ssI_r x648879 (by omega) (fun _ => by omega)) (by omega) (by omega)) | exact dgS_n (by omega) (by omega) (ssI_r x648879 (by omega) (fun _ => by omega)))⟩
    exact hlp16_648879 (((11 : Int) - 1).toNat + 1) 1 (-10) (gB_w (gBl (show Int32.toInt 1 = 1 by decide)) (by decide) (by decide)) ssI_0 (Nat.lt_succ_self _)
  · have r648889 : 0 ≤ p648824.toInt := gj_nlt hc648826 (show Int32.toInt 0 = 0 by decide)
    have bp648824' : gB p648824 0 2147483647 := ⟨by omega, by omega⟩
    refine G_iconst 0 dr_cJ6_stringSize_0f7a4_6 (by decide +kernel) ?_
    refine G_istore_n (L' := [(1, .int 0), (0, .int p648824)]) dr_cJ6_stringSize_0f7a4_7 (Nat.le_of_ble_eq_true rfl) rfl ?_
    refine G_iload_n 1 dr_cJ6_stringSize_0f7a4_8 rfl ?_
    refine G_ineg dr_cJ6_stringSize_0f7a4_9 (G_nam fun z648890 hz648890 => ?_)
    have ez648890 : z648890.toInt = -p648824.toInt := gI_neg hz648890 bp648824' (by decide)
    have bz648890 : gB z648890 (-2147483647) 0 := ⟨by omega, by omega⟩
    refine G_istore_n (L' := [(0, .int z648890), (1, .int 0)]) dr_cJ6_stringSize_0f7a4_10 (Nat.le_of_ble_eq_true rfl) rfl ?_
    refine G_bipush (-10) dr_cJ6_stringSize_0f7a4_11 (by decide +kernel) ?_
    refine G_istore_n (L' := [(2, .int (-10)), (0, .int z648890), (1, .int 0)]) dr_cJ6_stringSize_0f7a4_13 (Nat.le_of_ble_eq_true rfl) rfl ?_
    refine G_iconst 1 dr_cJ6_stringSize_0f7a4_14 (by decide +kernel) ?_
    refine G_istore_n (L' := [(3, .int 1), (2, .int (-10)), (0, .int z648890), (1, .int 0)]) dr_cJ6_stringSize_0f7a4_15 (Nat.le_of_ble_eq_true rfl) rfl ?_
    have hlp16_648942 : ∀ (n16_648942 : Nat) (g648940 : Int32) (g648941 : Int32), gB g648940 1 10 → ssI g648940 g648941 → ((11 : Int) - g648940.toInt).toNat < n16_648942 → G (gV D I) l (gRm 0 0 0 0) (gMA (gV D I) (pp_648825_Integer_stringSize D I P648822 F648823 p648824) gNA 0 0) ky_648825_Integer_stringSize 16 [(3, .int g648940), (2, .int g648941), (0, .int z648890), (1, .int 0)] [] (va_pl P648822 F648823) 0 0 := by
      intro n16_648942
      induction n16_648942 with
      | zero => intro g648940 g648941 bg648940 x648942 hm16_648942; exact absurd hm16_648942 (Nat.not_lt_zero _)
      | succ n16_648942 ih16_648942 =>
        intro g648940 g648941 bg648940 x648942 hm16_648942
        have bg648941 := gB_any g648941
        refine G_iload_n 0 dr_cJ6_stringSize_0f7a4_16 rfl ?_
        refine G_bipush 10 dr_cJ6_stringSize_0f7a4_17 (by decide +kernel) ?_
        refine G_icmp_ge 42 dr_cJ6_stringSize_0f7a4_19 (by decide +kernel) (fun hc648943 => ?_) (fun hc648943 => ?_)
        · have r648944 : 10 ≤ g648940.toInt := gj_leL hc648943 (show Int32.toInt 10 = 10 by decide)
          have bg648940' : gB g648940 10 10 := ⟨by omega, by omega⟩
          refine G_bipush 10 dr_cJ6_stringSize_0f7a4_42 (by decide +kernel) ?_
          refine G_iload_n 3 dr_cJ6_stringSize_0f7a4_44 rfl ?_
          refine G_iadd dr_cJ6_stringSize_0f7a4_45 ?_
          refine G_eqi (y := 10) (by decide) ?_
          exact G_iretA dr_cJ6_stringSize_0f7a4_46 rfl (Nat.le_of_ble_eq_true rfl) (Nat.le_of_ble_eq_true rfl) ⟨10, rfl, rfl, (Nat.le_of_ble_eq_true rfl), (Nat.le_of_ble_eq_true rfl), (gB_w (gBl (show Int32.toInt 10 = 10 by decide)) (by decide) (by decide)), (by have q10 : Int32.toInt 10 = 10 := (by decide); have q11 : Int32.toInt 11 = 11 := (by decide); first | exact dgS_p (x := -p648824.toInt) (by omega) rfl (dgB_up (ssI_r x648942 (by omega) (fun _ => by omega)) (by omega) (by omega)) | exact dgS_n (by omega) (by omega) (ssI_r x648942 (by omega) (fun _ => by omega)))⟩
        · have r648945 : g648940.toInt < 10 := gj_nleL hc648943 (show Int32.toInt 10 = 10 by decide)
          have bg648940' : gB g648940 1 9 := ⟨by omega, by omega⟩
          refine G_iload_n 2 dr_cJ6_stringSize_0f7a4_22 rfl ?_
          refine G_iload_n 1 dr_cJ6_stringSize_0f7a4_23 rfl ?_
          refine G_icmp_le 31 dr_cJ6_stringSize_0f7a4_24 (by decide +kernel) (fun hc648946 => ?_) (fun hc648946 => ?_)
          · have r648947 : z648890.toInt ≤ g648941.toInt := gC_le hc648946
            have bg648941' : gB g648941 (-2147483647) 2147483647 := ⟨by omega, by omega⟩
            refine G_bipush 10 dr_cJ6_stringSize_0f7a4_31 (by decide +kernel) ?_
            refine G_iload_n 1 dr_cJ6_stringSize_0f7a4_33 rfl ?_
            refine G_imul dr_cJ6_stringSize_0f7a4_34 (G_nam fun z648948 hz648948 => ?_)
            have bz648948 : gB z648948 (-2147483648) 2147483647 := gB_any z648948
            refine G_istore_n (L' := [(2, .int z648948), (3, .int g648940), (0, .int z648890), (1, .int 0)]) dr_cJ6_stringSize_0f7a4_35 (Nat.le_of_ble_eq_true rfl) rfl ?_
            obtain ⟨z648949, hz648949⟩ : ∃ z : Int32, z = g648940 + Int32.ofInt 1 := ⟨_, rfl⟩
            have ez648949 : z648949.toInt = g648940.toInt + 1 := gI_inc hz648949 (by decide) bg648940' (by decide) (by decide)
            have bz648949 : gB z648949 2 10 := ⟨by omega, by omega⟩
            refine G_iinc (L' := [(3, .int z648949), (2, .int z648948), (0, .int z648890), (1, .int 0)]) z648949 1 dr_cJ6_stringSize_0f7a4_36 rfl hz648949.symm (Nat.le_of_ble_eq_true rfl) rfl ?_
            refine G_goto 16 dr_cJ6_stringSize_0f7a4_39 (by decide +kernel) ?_
            exact ih16_648942 z648949 z648948 (gB_w bz648949 (by decide) (by decide)) (ssI_st x648942 (by omega) (by omega) hz648948) (by have qa0 : Int32.toInt 0 = 0 := (by decide); omega)
          · have r648950 : g648941.toInt < z648890.toInt := gC_nle hc648946
            have bg648941' : gB g648941 (-2147483648) (-1) := ⟨by omega, by omega⟩
            refine G_iload_n 0 dr_cJ6_stringSize_0f7a4_27 rfl ?_
            refine G_iload_n 3 dr_cJ6_stringSize_0f7a4_28 rfl ?_
            refine G_iadd dr_cJ6_stringSize_0f7a4_29 (G_nam fun z648951 hz648951 => ?_)
            have ez648951 : z648951.toInt = g648940.toInt + 0 := by rw [gI_add hz648951 bg648940' (gBl (show Int32.toInt 0 = 0 by decide)) (by decide) (by decide), show Int32.toInt 0 = 0 from by decide]
            have bz648951 : gB z648951 1 9 := gB_add (gI_add hz648951 bg648940' (gBl (show Int32.toInt 0 = 0 by decide)) (by decide) (by decide)) bg648940' (gBl (show Int32.toInt 0 = 0 by decide)) (by decide) (by decide)
            exact G_iretA dr_cJ6_stringSize_0f7a4_30 rfl (Nat.le_of_ble_eq_true rfl) (Nat.le_of_ble_eq_true rfl) ⟨z648951, rfl, rfl, (Nat.le_of_ble_eq_true rfl), (Nat.le_of_ble_eq_true rfl), (gB_w bz648951 (by decide) (by decide)), (by have q10 : Int32.toInt 10 = 10 := (by decide); have q11 : Int32.toInt 11 = 11 := (by decide); first | exact dgS_p (x := -p648824.toInt) (by omega) rfl (dgB_up (ssI_r x648942 (by omega) (fun _ => by omega)) (by omega) (by omega)) | exact dgS_n (by omega) (by omega) (ssI_r x648942 (by omega) (fun _ => by omega)))⟩
    exact hlp16_648942 (((11 : Int) - 1).toNat + 1) 1 (-10) (gB_w (gBl (show Int32.toInt 1 = 1 by decide)) (by decide) (by decide)) ssI_0 (Nat.lt_succ_self _)
abbrev ky_649002_Integer_getChars : gKey := (cJ6_getChars_ba4f3, 7, "java/lang/Integer", (some FieldType.int), [], "getChars", fun _ _ => True)
def pp_649002_Integer_getChars (D : va_G) (I : FieldType → ClassId) (P648992 : List Nat) (F648993 : Nat → va_E) (q648994 : Nat) (p648995 : Int32) (p648996 : Int32) (f648997 : Nat → Int32) (n648998 : Nat) : Option Value → va_W → Nat → Nat → Prop := fun r w dc ds => ∃ (F649394 : Nat → va_E) (o649392 : Int32) (f649391 : Nat → Int32), r = some (.int o649392) ∧ w = va_pl P648992 F649394 ∧ rFr [q648994] P648992 F648993 F649394 ∧ F649394 q648994 = .inl (I .byte, n648998, .inl f649391) ∧ dc ≤ 0 ∧ ds ≤ 0 ∧ gB o649392 0 16777215 ∧ gF f649391 (-128) 127
set_option maxRecDepth 100000 in
set_option maxHeartbeats 4000000 in
theorem cp_649002_Integer_getChars (l : Launch) (hl0 : l.stackTraces = false) (D : va_G) (I : FieldType → ClassId) (P648992 : List Nat) (F648993 : Nat → va_E) (q648994 : Nat) (p648995 : Int32) (p648996 : Int32) (f648997 : Nat → Int32) (n648998 : Nat) (hmq648994 : q648994 ∈ P648992) (heq648994 : F648993 q648994 = .inl (I .byte, n648998, .inl f648997)) (bp648996 : gB p648996 0 16777216) (bf648997 : gF f648997 (-128) 127) (x648999 : p648996.toInt ≤ (n648998 : Int)) (x649000 : dgS p648995.toInt p648996.toInt) (x649001 : ((n648998 : Int) ≤ 16777216)) : CtA (gV D I) l yJ6_getChars_ba4f3 cJ6_getChars_ba4f3 7 (some FieldType.int) 0 0 0 0 [.int p648995, .int p648996, .ref q648994] (va_pl P648992 F648993) (pp_649002_Integer_getChars D I P648992 F648993 q648994 p648995 p648996 f648997 n648998) gNA := by
  refine CtA_ofF hl0 (by decide +kernel) (Nat.le_of_ble_eq_true rfl) ?_
  have bp648995 := gB_any p648995
  refine G_iload_n 1 dr_cJ6_getChars_ba4f3_0 rfl ?_
  refine G_istore (L' := [(5, .int p648996), (0, .int p648995), (1, .int p648996), (2, .ref q648994)]) dr_cJ6_getChars_ba4f3_1 (Nat.le_of_ble_eq_true rfl) rfl ?_
  refine G_iload_n 1 dr_cJ6_getChars_ba4f3_3 rfl ?_
  refine G_if_ge 11 dr_cJ6_getChars_ba4f3_4 (by decide +kernel) (fun hc649003 => ?_) (fun hc649003 => ?_)
  · have r649004 : 0 ≤ p648995.toInt := gj_leL hc649003 (show Int32.toInt 0 = 0 by decide)
    have bp648995' : gB p648995 0 2147483647 := ⟨by omega, by omega⟩
    refine G_iconst 0 dr_cJ6_getChars_ba4f3_11 (by decide +kernel) ?_
    refine G_istore (L' := [(6, .int 0), (5, .int p648996), (0, .int p648995), (1, .int p648996), (2, .ref q648994)]) dr_cJ6_getChars_ba4f3_12 (Nat.le_of_ble_eq_true rfl) rfl ?_
    refine G_iload 0 dr_cJ6_getChars_ba4f3_14 rfl ?_
    refine G_if_ne 22 dr_cJ6_getChars_ba4f3_16 (by decide +kernel) (fun hc => absurd hc (by decide)) (fun _ => ?_)
    refine G_iload_n 2 dr_cJ6_getChars_ba4f3_19 rfl ?_
    refine G_ineg dr_cJ6_getChars_ba4f3_20 (G_nam fun z649005 hz649005 => ?_)
    have ez649005 : z649005.toInt = -p648995.toInt := gI_neg hz649005 bp648995' (by decide)
    have bz649005 : gB z649005 (-2147483647) 0 := ⟨by omega, by omega⟩
    refine G_istore_n (L' := [(0, .int z649005), (6, .int 0), (5, .int p648996), (1, .int p648996), (2, .ref q648994)]) dr_cJ6_getChars_ba4f3_21 (Nat.le_of_ble_eq_true rfl) rfl ?_
    have hlp22_649122 : ∀ (n22_649122 : Nat) (F649117 : Nat → va_E) (g649114 : Int32) (g649115 : Int32) (f649116 : Nat → Int32), gB g649114 (-2147483647) 0 → gB g649115 0 16777216 → gF f649116 (-128) 127 → rFr [q648994] P648992 F648993 F649117 → F649117 q648994 = .inl (I .byte, n648998, .inl f649116) → g649114.toInt ≤ 0 → dgB g649114.toInt (g649115.toInt - 0) → g649115.toInt ≤ p648996.toInt → (-g649114.toInt).toNat < n22_649122 → G (gV D I) l (gRm 0 0 0 0) (gMA (gV D I) (pp_649002_Integer_getChars D I P648992 F648993 q648994 p648995 p648996 f648997 n648998) gNA 0 0) ky_649002_Integer_getChars 22 [(0, .int g649114), (6, .int 0), (5, .int g649115), (1, .int p648996), (2, .ref q648994)] [] (va_pl P648992 F649117) 0 0 := by
      intro n22_649122
      induction n22_649122 with
      | zero => intro F649117 g649114 g649115 f649116 bg649114 bg649115 bf649116 hfr649119 he649118 x649120 x649121 x649122 hm22_649122; exact absurd hm22_649122 (Nat.not_lt_zero _)
      | succ n22_649122 ih22_649122 =>
        intro F649117 g649114 g649115 f649116 bg649114 bg649115 bf649116 hfr649119 he649118 x649120 x649121 x649122 hm22_649122
        refine G_iload_n 0 dr_cJ6_getChars_ba4f3_22 rfl ?_
        refine G_bipush (-100) dr_cJ6_getChars_ba4f3_23 (by decide +kernel) ?_
        refine G_icmp_gt 72 dr_cJ6_getChars_ba4f3_25 (by decide +kernel) (fun hc649123 => ?_) (fun hc649123 => ?_)
        · have r649124 : (-100) < g649114.toInt := gj_ltL hc649123 (show Int32.toInt (-100) = (-100) by decide)
          have bg649114' : gB g649114 (-99) 0 := ⟨by omega, by omega⟩
          have x649125 : (1 : Int) ≤ (g649115.toInt - 0) := dgB_1 x649121
          refine G_aload_n 4 dr_cJ6_getChars_ba4f3_72 rfl ?_
          have bg649115' : gB g649115 1 16777216 := ⟨by omega, by omega⟩
          obtain ⟨z649126, hz649126⟩ : ∃ z : Int32, z = g649115 + Int32.ofInt (-1) := ⟨_, rfl⟩
          have ez649126 : z649126.toInt = g649115.toInt + (-1) := gI_inc hz649126 (by decide) bg649115' (by decide) (by decide)
          have bz649126 : gB z649126 0 16777215 := ⟨by omega, by omega⟩
          refine G_iinc (L' := [(5, .int z649126), (0, .int g649114), (6, .int 0), (1, .int p648996), (2, .ref q648994)]) z649126 2 dr_cJ6_getChars_ba4f3_73 rfl hz649126.symm (Nat.le_of_ble_eq_true rfl) rfl ?_
          refine G_iload 0 dr_cJ6_getChars_ba4f3_76 rfl ?_
          refine G_gets dr_cJ6_getChars_ba4f3_78 wr_8_114 gr_on (fun x649128 hx649127 => ?_)
          subst hx649127
          refine G_iload_n 1 dr_cJ6_getChars_ba4f3_81 rfl ?_
          refine G_ineg dr_cJ6_getChars_ba4f3_82 (G_nam fun z649129 hz649129 => ?_)
          have ez649129 : z649129.toInt = -g649114.toInt := gI_neg hz649129 bg649114' (by decide)
          have bz649129 : gB z649129 0 99 := ⟨by omega, by omega⟩
          refine G_kbald (f := dg_O) dr_cJ6_getChars_ba4f3_83 gr_ont (gB_inr (by omega) (by omega)) (G_nam fun z649130 hz649130 => ?_)
          have bz649130 : gB z649130 (-2147483648) 2147483647 := gB_any z649130
          refine Gp_bast 1 hmq648994 he649118 dr_cJ6_getChars_ba4f3_84 rfl (gB_inr (by omega) (by omega)) (fun F649131 e649132 n649133 => ?_)
          obtain ⟨f649134, hf649134⟩ : ∃ z, z = upd f649116 z649126.toNatClampNeg (vp_nar .byte z649130) := ⟨_, rfl⟩
          rw [← hf649134] at e649132
          have he649135 : F649131 q648994 = .inl (I .byte, n648998, .inl f649134) := e649132
          have hfr649136 : rFr [q648994] P648992 F648993 F649131 := rFr_put' List.mem_cons_self hfr649119 n649133
          have bf649134 : gF f649134 (-128) 127 := gF_upd hf649134 bf649116 gB_byte
          refine G_iload_n 1 dr_cJ6_getChars_ba4f3_85 rfl ?_
          refine G_bipush (-9) dr_cJ6_getChars_ba4f3_86 (by decide +kernel) ?_
          refine G_icmp_ge 104 dr_cJ6_getChars_ba4f3_88 (by decide +kernel) (fun hc649137 => ?_) (fun hc649137 => ?_)
          · have r649138 : (-9) ≤ g649114.toInt := gj_leL hc649137 (show Int32.toInt (-9) = (-9) by decide)
            have bg649114'' : gB g649114 (-9) 0 := ⟨by omega, by omega⟩
            refine G_iload 2 dr_cJ6_getChars_ba4f3_104 rfl ?_
            refine G_if_eq 118 dr_cJ6_getChars_ba4f3_106 (by decide +kernel) (fun _ => ?_) (fun hc => absurd hc (by decide))
            refine G_iload 0 dr_cJ6_getChars_ba4f3_118 rfl ?_
            exact G_iretA dr_cJ6_getChars_ba4f3_120 rfl (Nat.le_of_ble_eq_true rfl) (Nat.le_of_ble_eq_true rfl) ⟨F649131, z649126, f649134, rfl, rfl, hfr649136, he649135, (Nat.le_of_ble_eq_true rfl), (Nat.le_of_ble_eq_true rfl), bz649126, bf649134⟩
          · have r649139 : g649114.toInt < (-9) := gj_nleL hc649137 (show Int32.toInt (-9) = (-9) by decide)
            have bg649114'' : gB g649114 (-99) (-10) := ⟨by omega, by omega⟩
            have x649140 : (2 : Int) ≤ (g649115.toInt - 0) := dgB_2 x649121 (by omega)
            refine G_aload_n 4 dr_cJ6_getChars_ba4f3_91 rfl ?_
            have bz649126' : gB z649126 1 16777215 := ⟨by omega, by omega⟩
            obtain ⟨z649141, hz649141⟩ : ∃ z : Int32, z = z649126 + Int32.ofInt (-1) := ⟨_, rfl⟩
            have ez649141 : z649141.toInt = z649126.toInt + (-1) := gI_inc hz649141 (by decide) bz649126' (by decide) (by decide)
            have bz649141 : gB z649141 0 16777214 := ⟨by omega, by omega⟩
            refine G_iinc (L' := [(5, .int z649141), (0, .int g649114), (6, .int 0), (1, .int p648996), (2, .ref q648994)]) z649141 0 dr_cJ6_getChars_ba4f3_92 rfl hz649141.symm (Nat.le_of_ble_eq_true rfl) rfl ?_
            refine G_iload 0 dr_cJ6_getChars_ba4f3_95 rfl ?_
            refine G_gets dr_cJ6_getChars_ba4f3_97 wr_8_116 gr_te (fun x649143 hx649142 => ?_)
            subst hx649142
            refine G_iload_n 1 dr_cJ6_getChars_ba4f3_100 rfl ?_
            refine G_ineg dr_cJ6_getChars_ba4f3_101 (G_nam fun z649144 hz649144 => ?_)
            have ez649144 : z649144.toInt = -g649114.toInt := gI_neg hz649144 bg649114'' (by decide)
            have bz649144 : gB z649144 10 99 := ⟨by omega, by omega⟩
            refine G_kbald (f := dg_T) dr_cJ6_getChars_ba4f3_102 gr_tet (gB_inr (by omega) (by omega)) (G_nam fun z649145 hz649145 => ?_)
            have bz649145 : gB z649145 (-2147483648) 2147483647 := gB_any z649145
            refine Gp_bast 1 hmq648994 he649135 dr_cJ6_getChars_ba4f3_103 rfl (gB_inr (by omega) (by omega)) (fun F649146 e649147 n649148 => ?_)
            obtain ⟨f649149, hf649149⟩ : ∃ z, z = upd f649134 z649141.toNatClampNeg (vp_nar .byte z649145) := ⟨_, rfl⟩
            rw [← hf649149] at e649147
            have he649150 : F649146 q648994 = .inl (I .byte, n648998, .inl f649149) := e649147
            have hfr649151 : rFr [q648994] P648992 F648993 F649146 := rFr_put' List.mem_cons_self hfr649136 n649148
            have bf649149 : gF f649149 (-128) 127 := gF_upd hf649149 bf649134 gB_byte
            refine G_iload 2 dr_cJ6_getChars_ba4f3_104 rfl ?_
            refine G_if_eq 118 dr_cJ6_getChars_ba4f3_106 (by decide +kernel) (fun _ => ?_) (fun hc => absurd hc (by decide))
            refine G_iload 0 dr_cJ6_getChars_ba4f3_118 rfl ?_
            exact G_iretA dr_cJ6_getChars_ba4f3_120 rfl (Nat.le_of_ble_eq_true rfl) (Nat.le_of_ble_eq_true rfl) ⟨F649146, z649141, f649149, rfl, rfl, hfr649151, he649150, (Nat.le_of_ble_eq_true rfl), (Nat.le_of_ble_eq_true rfl), (gB_w bz649141 (by decide) (by decide)), bf649149⟩
        · have r649152 : g649114.toInt ≤ (-100) := gj_nltL hc649123 (show Int32.toInt (-100) = (-100) by decide)
          have bg649114' : gB g649114 (-2147483647) (-100) := ⟨by omega, by omega⟩
          have x649153 : (3 : Int) ≤ (g649115.toInt - 0) := dgB_3 x649121 (by omega)
          refine G_iload_n 0 dr_cJ6_getChars_ba4f3_28 rfl ?_
          refine G_bipush 100 dr_cJ6_getChars_ba4f3_29 (by decide +kernel) ?_
          refine G_idiv dr_cJ6_getChars_ba4f3_31 (by decide) (G_nam fun z649154 hz649154 => ?_)
          have ez649154 : z649154.toInt = -((-g649114.toInt) / 100) := gI_divn hz649154 bg649114' (by decide) (by decide) (by decide)
          have bz649154 : gB z649154 (-21474836) (-1) := ⟨by omega, by omega⟩
          refine G_istore_n (L' := [(3, .int z649154), (0, .int g649114), (6, .int 0), (5, .int g649115), (1, .int p648996), (2, .ref q648994)]) dr_cJ6_getChars_ba4f3_32 (Nat.le_of_ble_eq_true rfl) rfl ?_
          refine G_iload_n 0 dr_cJ6_getChars_ba4f3_33 rfl ?_
          refine G_bipush 100 dr_cJ6_getChars_ba4f3_34 (by decide +kernel) ?_
          refine G_imul dr_cJ6_getChars_ba4f3_36 (G_nam fun z649155 hz649155 => ?_)
          have ez649155 : z649155.toInt = z649154.toInt * 100 := gI_mulK hz649155 (by decide) (by omega) (by omega)
          have bz649155 : gB z649155 (-2147483600) (-100) := ⟨by omega, by omega⟩
          refine G_iload_n 1 dr_cJ6_getChars_ba4f3_37 rfl ?_
          refine G_isub dr_cJ6_getChars_ba4f3_38 (G_nam fun z649156 hz649156 => ?_)
          have ez649156 : z649156.toInt = z649155.toInt - g649114.toInt := by rw [gI_sub hz649156 bz649155 bg649114' (by decide) (by decide)]
          have bz649156 : gB z649156 (-2147483500) 2147483547 := gB_sub (gI_sub hz649156 bz649155 bg649114' (by decide) (by decide)) bz649155 bg649114' (by decide) (by decide)
          refine G_istore (L' := [(4, .int z649156), (3, .int z649154), (0, .int g649114), (6, .int 0), (5, .int g649115), (1, .int p648996), (2, .ref q648994)]) dr_cJ6_getChars_ba4f3_39 (Nat.le_of_ble_eq_true rfl) rfl ?_
          refine G_iload_n 1 dr_cJ6_getChars_ba4f3_41 rfl ?_
          refine G_istore_n (L' := [(0, .int z649154), (4, .int z649156), (3, .int z649154), (6, .int 0), (5, .int g649115), (1, .int p648996), (2, .ref q648994)]) dr_cJ6_getChars_ba4f3_42 (Nat.le_of_ble_eq_true rfl) rfl ?_
          refine G_aload_n 6 dr_cJ6_getChars_ba4f3_43 rfl ?_
          have bg649115' : gB g649115 2 16777216 := ⟨by omega, by omega⟩
          obtain ⟨z649157, hz649157⟩ : ∃ z : Int32, z = g649115 + Int32.ofInt (-1) := ⟨_, rfl⟩
          have ez649157 : z649157.toInt = g649115.toInt + (-1) := gI_inc hz649157 (by decide) bg649115' (by decide) (by decide)
          have bz649157 : gB z649157 1 16777215 := ⟨by omega, by omega⟩
          refine G_iinc (L' := [(5, .int z649157), (0, .int z649154), (4, .int z649156), (3, .int z649154), (6, .int 0), (1, .int p648996), (2, .ref q648994)]) z649157 4 dr_cJ6_getChars_ba4f3_44 rfl hz649157.symm (Nat.le_of_ble_eq_true rfl) rfl ?_
          refine G_iload 0 dr_cJ6_getChars_ba4f3_47 rfl ?_
          refine G_gets dr_cJ6_getChars_ba4f3_49 wr_8_114 gr_on (fun x649159 hx649158 => ?_)
          subst hx649158
          refine G_iload 2 dr_cJ6_getChars_ba4f3_52 rfl ?_
          refine G_kbald (f := dg_O) dr_cJ6_getChars_ba4f3_54 gr_ont (gB_inr (by omega) (by omega)) (G_nam fun z649160 hz649160 => ?_)
          have bz649160 : gB z649160 (-2147483648) 2147483647 := gB_any z649160
          refine Gp_bast 1 hmq648994 he649118 dr_cJ6_getChars_ba4f3_55 rfl (gB_inr (by omega) (by omega)) (fun F649161 e649162 n649163 => ?_)
          obtain ⟨f649164, hf649164⟩ : ∃ z, z = upd f649116 z649157.toNatClampNeg (vp_nar .byte z649160) := ⟨_, rfl⟩
          rw [← hf649164] at e649162
          have he649165 : F649161 q648994 = .inl (I .byte, n648998, .inl f649164) := e649162
          have hfr649166 : rFr [q648994] P648992 F648993 F649161 := rFr_put' List.mem_cons_self hfr649119 n649163
          have bf649164 : gF f649164 (-128) 127 := gF_upd hf649164 bf649116 gB_byte
          refine G_aload_n 6 dr_cJ6_getChars_ba4f3_56 rfl ?_
          obtain ⟨z649167, hz649167⟩ : ∃ z : Int32, z = z649157 + Int32.ofInt (-1) := ⟨_, rfl⟩
          have ez649167 : z649167.toInt = z649157.toInt + (-1) := gI_inc hz649167 (by decide) bz649157 (by decide) (by decide)
          have bz649167 : gB z649167 0 16777214 := ⟨by omega, by omega⟩
          refine G_iinc (L' := [(5, .int z649167), (0, .int z649154), (4, .int z649156), (3, .int z649154), (6, .int 0), (1, .int p648996), (2, .ref q648994)]) z649167 0 dr_cJ6_getChars_ba4f3_57 rfl hz649167.symm (Nat.le_of_ble_eq_true rfl) rfl ?_
          refine G_iload 0 dr_cJ6_getChars_ba4f3_60 rfl ?_
          refine G_gets dr_cJ6_getChars_ba4f3_62 wr_8_116 gr_te (fun x649169 hx649168 => ?_)
          subst hx649168
          refine G_iload 2 dr_cJ6_getChars_ba4f3_65 rfl ?_
          refine G_kbald (f := dg_T) dr_cJ6_getChars_ba4f3_67 gr_tet (gB_inr (by omega) (by omega)) (G_nam fun z649170 hz649170 => ?_)
          have bz649170 : gB z649170 (-2147483648) 2147483647 := gB_any z649170
          refine Gp_bast 1 hmq648994 he649165 dr_cJ6_getChars_ba4f3_68 rfl (gB_inr (by omega) (by omega)) (fun F649171 e649172 n649173 => ?_)
          obtain ⟨f649174, hf649174⟩ : ∃ z, z = upd f649164 z649167.toNatClampNeg (vp_nar .byte z649170) := ⟨_, rfl⟩
          rw [← hf649174] at e649172
          have he649175 : F649171 q648994 = .inl (I .byte, n648998, .inl f649174) := e649172
          have hfr649176 : rFr [q648994] P648992 F648993 F649171 := rFr_put' List.mem_cons_self hfr649166 n649173
          have bf649174 : gF f649174 (-128) 127 := gF_upd hf649174 bf649164 gB_byte
          refine G_goto 22 dr_cJ6_getChars_ba4f3_69 (by decide +kernel) ?_
          refine G_lv (L' := [(0, .int z649154), (6, .int 0), (5, .int z649167), (1, .int p648996), (2, .ref q648994)]) [1, 4, 0, 5, 6] rfl ?_
          exact ih22_649122 F649171 z649154 z649167 f649174 (gB_w bz649154 (by decide) (by decide)) (gB_w bz649167 (by decide) (by decide)) bf649174 hfr649176 he649175 (by have qa0 : Int32.toInt 0 = 0 := (by decide); omega) (by have q10 : Int32.toInt 10 = 10 := (by decide); have q11 : Int32.toInt 11 = 11 := (by decide); first | exact dgB_up (dgS_ip x649000 (by omega) (by omega)) (by omega) (by omega) | exact dgB_up (dgS_in x649000 (by omega)) (by omega) (by omega) | exact dgB_up x649121 (by omega) (by omega) | exact dgB_up (dgB_st x649121 (by omega) (by omega) (by omega)) (by omega) (by omega)) (by have qa0 : Int32.toInt 0 = 0 := (by decide); omega) (by have qa0 : Int32.toInt 0 = 0 := (by decide); omega)
    exact hlp22_649122 ((-z649005.toInt).toNat + 1) F648993 z649005 p648996 f648997 bz649005 bp648996 bf648997 (rFr_v (rFr_rf (W := []) (P := P648992) (F := F648993)) (fun b hn => nm_n)) heq648994 (by have qa0 : Int32.toInt 0 = 0 := (by decide); omega) (by have q10 : Int32.toInt 10 = 10 := (by decide); have q11 : Int32.toInt 11 = 11 := (by decide); first | exact dgB_up (dgS_ip x649000 (by omega) (by omega)) (by omega) (by omega) | exact dgB_up (dgS_in x649000 (by omega)) (by omega) (by omega)) (by have qa0 : Int32.toInt 0 = 0 := (by decide); omega) (Nat.lt_succ_self _)
  · have r649177 : p648995.toInt < 0 := gj_nleL hc649003 (show Int32.toInt 0 = 0 by decide)
    have bp648995' : gB p648995 (-2147483648) (-1) := ⟨by omega, by omega⟩
    refine G_iconst 1 dr_cJ6_getChars_ba4f3_7 (by decide +kernel) ?_
    refine G_goto 12 dr_cJ6_getChars_ba4f3_8 (by decide +kernel) ?_
    refine G_istore (L' := [(6, .int 1), (5, .int p648996), (0, .int p648995), (1, .int p648996), (2, .ref q648994)]) dr_cJ6_getChars_ba4f3_12 (Nat.le_of_ble_eq_true rfl) rfl ?_
    refine G_iload 0 dr_cJ6_getChars_ba4f3_14 rfl ?_
    refine G_if_ne 22 dr_cJ6_getChars_ba4f3_16 (by decide +kernel) (fun _ => ?_) (fun hc => absurd hc (by decide))
    have hlp22_649322 : ∀ (n22_649322 : Nat) (F649317 : Nat → va_E) (g649314 : Int32) (g649315 : Int32) (f649316 : Nat → Int32), gB g649314 0 16777216 → gB g649315 (-2147483648) (-1) → gF f649316 (-128) 127 → rFr [q648994] P648992 F648993 F649317 → F649317 q648994 = .inl (I .byte, n648998, .inl f649316) → g649315.toInt ≤ 0 → dgB g649315.toInt (g649314.toInt - 1) → g649314.toInt ≤ p648996.toInt → (-g649315.toInt).toNat < n22_649322 → G (gV D I) l (gRm 0 0 0 0) (gMA (gV D I) (pp_649002_Integer_getChars D I P648992 F648993 q648994 p648995 p648996 f648997 n648998) gNA 0 0) ky_649002_Integer_getChars 22 [(6, .int 1), (5, .int g649314), (0, .int g649315), (1, .int p648996), (2, .ref q648994)] [] (va_pl P648992 F649317) 0 0 := by
      intro n22_649322
      induction n22_649322 with
      | zero => intro F649317 g649314 g649315 f649316 bg649314 bg649315 bf649316 hfr649319 he649318 x649320 x649321 x649322 hm22_649322; exact absurd hm22_649322 (Nat.not_lt_zero _)
      | succ n22_649322 ih22_649322 =>
        intro F649317 g649314 g649315 f649316 bg649314 bg649315 bf649316 hfr649319 he649318 x649320 x649321 x649322 hm22_649322
        refine G_iload_n 2 dr_cJ6_getChars_ba4f3_22 rfl ?_
        refine G_bipush (-100) dr_cJ6_getChars_ba4f3_23 (by decide +kernel) ?_
        refine G_icmp_gt 72 dr_cJ6_getChars_ba4f3_25 (by decide +kernel) (fun hc649323 => ?_) (fun hc649323 => ?_)
        · have r649324 : (-100) < g649315.toInt := gj_ltL hc649323 (show Int32.toInt (-100) = (-100) by decide)
          have bg649315' : gB g649315 (-99) (-1) := ⟨by omega, by omega⟩
          have x649325 : (1 : Int) ≤ (g649314.toInt - 1) := dgB_1 x649321
          refine G_aload_n 4 dr_cJ6_getChars_ba4f3_72 rfl ?_
          have bg649314' : gB g649314 1 16777216 := ⟨by omega, by omega⟩
          obtain ⟨z649326, hz649326⟩ : ∃ z : Int32, z = g649314 + Int32.ofInt (-1) := ⟨_, rfl⟩
          have ez649326 : z649326.toInt = g649314.toInt + (-1) := gI_inc hz649326 (by decide) bg649314' (by decide) (by decide)
          have bz649326 : gB z649326 0 16777215 := ⟨by omega, by omega⟩
          refine G_iinc (L' := [(5, .int z649326), (6, .int 1), (0, .int g649315), (1, .int p648996), (2, .ref q648994)]) z649326 1 dr_cJ6_getChars_ba4f3_73 rfl hz649326.symm (Nat.le_of_ble_eq_true rfl) rfl ?_
          refine G_iload 0 dr_cJ6_getChars_ba4f3_76 rfl ?_
          refine G_gets dr_cJ6_getChars_ba4f3_78 wr_8_114 gr_on (fun x649328 hx649327 => ?_)
          subst hx649327
          refine G_iload_n 2 dr_cJ6_getChars_ba4f3_81 rfl ?_
          refine G_ineg dr_cJ6_getChars_ba4f3_82 (G_nam fun z649329 hz649329 => ?_)
          have ez649329 : z649329.toInt = -g649315.toInt := gI_neg hz649329 bg649315' (by decide)
          have bz649329 : gB z649329 1 99 := ⟨by omega, by omega⟩
          refine G_kbald (f := dg_O) dr_cJ6_getChars_ba4f3_83 gr_ont (gB_inr (by omega) (by omega)) (G_nam fun z649330 hz649330 => ?_)
          have bz649330 : gB z649330 (-2147483648) 2147483647 := gB_any z649330
          refine Gp_bast 1 hmq648994 he649318 dr_cJ6_getChars_ba4f3_84 rfl (gB_inr (by omega) (by omega)) (fun F649331 e649332 n649333 => ?_)
          obtain ⟨f649334, hf649334⟩ : ∃ z, z = upd f649316 z649326.toNatClampNeg (vp_nar .byte z649330) := ⟨_, rfl⟩
          rw [← hf649334] at e649332
          have he649335 : F649331 q648994 = .inl (I .byte, n648998, .inl f649334) := e649332
          have hfr649336 : rFr [q648994] P648992 F648993 F649331 := rFr_put' List.mem_cons_self hfr649319 n649333
          have bf649334 : gF f649334 (-128) 127 := gF_upd hf649334 bf649316 gB_byte
          refine G_iload_n 2 dr_cJ6_getChars_ba4f3_85 rfl ?_
          refine G_bipush (-9) dr_cJ6_getChars_ba4f3_86 (by decide +kernel) ?_
          refine G_icmp_ge 104 dr_cJ6_getChars_ba4f3_88 (by decide +kernel) (fun hc649337 => ?_) (fun hc649337 => ?_)
          · have r649338 : (-9) ≤ g649315.toInt := gj_leL hc649337 (show Int32.toInt (-9) = (-9) by decide)
            have bg649315'' : gB g649315 (-9) (-1) := ⟨by omega, by omega⟩
            refine G_iload 1 dr_cJ6_getChars_ba4f3_104 rfl ?_
            refine G_if_eq 118 dr_cJ6_getChars_ba4f3_106 (by decide +kernel) (fun hc => absurd hc (by decide)) (fun _ => ?_)
            refine G_aload_n 4 dr_cJ6_getChars_ba4f3_109 rfl ?_
            have bz649326' : gB z649326 1 16777215 := ⟨by omega, by omega⟩
            obtain ⟨z649339, hz649339⟩ : ∃ z : Int32, z = z649326 + Int32.ofInt (-1) := ⟨_, rfl⟩
            have ez649339 : z649339.toInt = z649326.toInt + (-1) := gI_inc hz649339 (by decide) bz649326' (by decide) (by decide)
            have bz649339 : gB z649339 0 16777214 := ⟨by omega, by omega⟩
            refine G_iinc (L' := [(5, .int z649339), (6, .int 1), (0, .int g649315), (1, .int p648996), (2, .ref q648994)]) z649339 0 dr_cJ6_getChars_ba4f3_110 rfl hz649339.symm (Nat.le_of_ble_eq_true rfl) rfl ?_
            refine G_iload 0 dr_cJ6_getChars_ba4f3_113 rfl ?_
            refine G_bipush 45 dr_cJ6_getChars_ba4f3_115 (by decide +kernel) ?_
            refine Gp_bast 1 hmq648994 he649335 dr_cJ6_getChars_ba4f3_117 rfl (gB_inr (by omega) (by omega)) (fun F649340 e649341 n649342 => ?_)
            obtain ⟨f649343, hf649343⟩ : ∃ z, z = upd f649334 z649339.toNatClampNeg (vp_nar .byte 45) := ⟨_, rfl⟩
            rw [← hf649343] at e649341
            have he649344 : F649340 q648994 = .inl (I .byte, n648998, .inl f649343) := e649341
            have hfr649345 : rFr [q648994] P648992 F648993 F649340 := rFr_put' List.mem_cons_self hfr649336 n649342
            have bf649343 : gF f649343 (-128) 127 := gF_upd hf649343 bf649334 gB_byte
            refine G_iload 0 dr_cJ6_getChars_ba4f3_118 rfl ?_
            exact G_iretA dr_cJ6_getChars_ba4f3_120 rfl (Nat.le_of_ble_eq_true rfl) (Nat.le_of_ble_eq_true rfl) ⟨F649340, z649339, f649343, rfl, rfl, hfr649345, he649344, (Nat.le_of_ble_eq_true rfl), (Nat.le_of_ble_eq_true rfl), (gB_w bz649339 (by decide) (by decide)), bf649343⟩
          · have r649346 : g649315.toInt < (-9) := gj_nleL hc649337 (show Int32.toInt (-9) = (-9) by decide)
            have bg649315'' : gB g649315 (-99) (-10) := ⟨by omega, by omega⟩
            have x649347 : (2 : Int) ≤ (g649314.toInt - 1) := dgB_2 x649321 (by omega)
            refine G_aload_n 4 dr_cJ6_getChars_ba4f3_91 rfl ?_
            have bz649326' : gB z649326 1 16777215 := ⟨by omega, by omega⟩
            obtain ⟨z649348, hz649348⟩ : ∃ z : Int32, z = z649326 + Int32.ofInt (-1) := ⟨_, rfl⟩
            have ez649348 : z649348.toInt = z649326.toInt + (-1) := gI_inc hz649348 (by decide) bz649326' (by decide) (by decide)
            have bz649348 : gB z649348 0 16777214 := ⟨by omega, by omega⟩
            refine G_iinc (L' := [(5, .int z649348), (6, .int 1), (0, .int g649315), (1, .int p648996), (2, .ref q648994)]) z649348 0 dr_cJ6_getChars_ba4f3_92 rfl hz649348.symm (Nat.le_of_ble_eq_true rfl) rfl ?_
            refine G_iload 0 dr_cJ6_getChars_ba4f3_95 rfl ?_
            refine G_gets dr_cJ6_getChars_ba4f3_97 wr_8_116 gr_te (fun x649350 hx649349 => ?_)
            subst hx649349
            refine G_iload_n 2 dr_cJ6_getChars_ba4f3_100 rfl ?_
            refine G_ineg dr_cJ6_getChars_ba4f3_101 (G_nam fun z649351 hz649351 => ?_)
            have ez649351 : z649351.toInt = -g649315.toInt := gI_neg hz649351 bg649315'' (by decide)
            have bz649351 : gB z649351 10 99 := ⟨by omega, by omega⟩
            refine G_kbald (f := dg_T) dr_cJ6_getChars_ba4f3_102 gr_tet (gB_inr (by omega) (by omega)) (G_nam fun z649352 hz649352 => ?_)
            have bz649352 : gB z649352 (-2147483648) 2147483647 := gB_any z649352
            refine Gp_bast 1 hmq648994 he649335 dr_cJ6_getChars_ba4f3_103 rfl (gB_inr (by omega) (by omega)) (fun F649353 e649354 n649355 => ?_)
            obtain ⟨f649356, hf649356⟩ : ∃ z, z = upd f649334 z649348.toNatClampNeg (vp_nar .byte z649352) := ⟨_, rfl⟩
            rw [← hf649356] at e649354
            have he649357 : F649353 q648994 = .inl (I .byte, n648998, .inl f649356) := e649354
            have hfr649358 : rFr [q648994] P648992 F648993 F649353 := rFr_put' List.mem_cons_self hfr649336 n649355
            have bf649356 : gF f649356 (-128) 127 := gF_upd hf649356 bf649334 gB_byte
            refine G_iload 1 dr_cJ6_getChars_ba4f3_104 rfl ?_
            refine G_if_eq 118 dr_cJ6_getChars_ba4f3_106 (by decide +kernel) (fun hc => absurd hc (by decide)) (fun _ => ?_)
            refine G_aload_n 4 dr_cJ6_getChars_ba4f3_109 rfl ?_
            have bz649348' : gB z649348 1 16777214 := ⟨by omega, by omega⟩
            obtain ⟨z649359, hz649359⟩ : ∃ z : Int32, z = z649348 + Int32.ofInt (-1) := ⟨_, rfl⟩
            have ez649359 : z649359.toInt = z649348.toInt + (-1) := gI_inc hz649359 (by decide) bz649348' (by decide) (by decide)
            have bz649359 : gB z649359 0 16777213 := ⟨by omega, by omega⟩
            refine G_iinc (L' := [(5, .int z649359), (6, .int 1), (0, .int g649315), (1, .int p648996), (2, .ref q648994)]) z649359 0 dr_cJ6_getChars_ba4f3_110 rfl hz649359.symm (Nat.le_of_ble_eq_true rfl) rfl ?_
            refine G_iload 0 dr_cJ6_getChars_ba4f3_113 rfl ?_
            refine G_bipush 45 dr_cJ6_getChars_ba4f3_115 (by decide +kernel) ?_
            refine Gp_bast 1 hmq648994 he649357 dr_cJ6_getChars_ba4f3_117 rfl (gB_inr (by omega) (by omega)) (fun F649360 e649361 n649362 => ?_)
            obtain ⟨f649363, hf649363⟩ : ∃ z, z = upd f649356 z649359.toNatClampNeg (vp_nar .byte 45) := ⟨_, rfl⟩
            rw [← hf649363] at e649361
            have he649364 : F649360 q648994 = .inl (I .byte, n648998, .inl f649363) := e649361
            have hfr649365 : rFr [q648994] P648992 F648993 F649360 := rFr_put' List.mem_cons_self hfr649358 n649362
            have bf649363 : gF f649363 (-128) 127 := gF_upd hf649363 bf649356 gB_byte
            refine G_iload 0 dr_cJ6_getChars_ba4f3_118 rfl ?_
            exact G_iretA dr_cJ6_getChars_ba4f3_120 rfl (Nat.le_of_ble_eq_true rfl) (Nat.le_of_ble_eq_true rfl) ⟨F649360, z649359, f649363, rfl, rfl, hfr649365, he649364, (Nat.le_of_ble_eq_true rfl), (Nat.le_of_ble_eq_true rfl), (gB_w bz649359 (by decide) (by decide)), bf649363⟩
        · have r649366 : g649315.toInt ≤ (-100) := gj_nltL hc649323 (show Int32.toInt (-100) = (-100) by decide)
          have bg649315' : gB g649315 (-2147483648) (-100) := ⟨by omega, by omega⟩
          have x649367 : (3 : Int) ≤ (g649314.toInt - 1) := dgB_3 x649321 (by omega)
          refine G_iload_n 2 dr_cJ6_getChars_ba4f3_28 rfl ?_
          refine G_bipush 100 dr_cJ6_getChars_ba4f3_29 (by decide +kernel) ?_
          refine G_idiv dr_cJ6_getChars_ba4f3_31 (by decide) (G_nam fun z649368 hz649368 => ?_)
          have ez649368 : z649368.toInt = -((-g649315.toInt) / 100) := gI_divn hz649368 bg649315' (by decide) (by decide) (by decide)
          have bz649368 : gB z649368 (-21474836) (-1) := ⟨by omega, by omega⟩
          refine G_istore_n (L' := [(3, .int z649368), (6, .int 1), (5, .int g649314), (0, .int g649315), (1, .int p648996), (2, .ref q648994)]) dr_cJ6_getChars_ba4f3_32 (Nat.le_of_ble_eq_true rfl) rfl ?_
          refine G_iload_n 0 dr_cJ6_getChars_ba4f3_33 rfl ?_
          refine G_bipush 100 dr_cJ6_getChars_ba4f3_34 (by decide +kernel) ?_
          refine G_imul dr_cJ6_getChars_ba4f3_36 (G_nam fun z649369 hz649369 => ?_)
          have ez649369 : z649369.toInt = z649368.toInt * 100 := gI_mulK hz649369 (by decide) (by omega) (by omega)
          have bz649369 : gB z649369 (-2147483600) (-100) := ⟨by omega, by omega⟩
          refine G_iload_n 3 dr_cJ6_getChars_ba4f3_37 rfl ?_
          refine G_isub dr_cJ6_getChars_ba4f3_38 (G_nam fun z649370 hz649370 => ?_)
          have ez649370 : z649370.toInt = z649369.toInt - g649315.toInt := by rw [gI_sub hz649370 bz649369 bg649315' (by decide) (by decide)]
          have bz649370 : gB z649370 (-2147483500) 2147483548 := gB_sub (gI_sub hz649370 bz649369 bg649315' (by decide) (by decide)) bz649369 bg649315' (by decide) (by decide)
          refine G_istore (L' := [(4, .int z649370), (3, .int z649368), (6, .int 1), (5, .int g649314), (0, .int g649315), (1, .int p648996), (2, .ref q648994)]) dr_cJ6_getChars_ba4f3_39 (Nat.le_of_ble_eq_true rfl) rfl ?_
          refine G_iload_n 1 dr_cJ6_getChars_ba4f3_41 rfl ?_
          refine G_istore_n (L' := [(0, .int z649368), (4, .int z649370), (3, .int z649368), (6, .int 1), (5, .int g649314), (1, .int p648996), (2, .ref q648994)]) dr_cJ6_getChars_ba4f3_42 (Nat.le_of_ble_eq_true rfl) rfl ?_
          refine G_aload_n 6 dr_cJ6_getChars_ba4f3_43 rfl ?_
          have bg649314' : gB g649314 2 16777216 := ⟨by omega, by omega⟩
          obtain ⟨z649371, hz649371⟩ : ∃ z : Int32, z = g649314 + Int32.ofInt (-1) := ⟨_, rfl⟩
          have ez649371 : z649371.toInt = g649314.toInt + (-1) := gI_inc hz649371 (by decide) bg649314' (by decide) (by decide)
          have bz649371 : gB z649371 1 16777215 := ⟨by omega, by omega⟩
          refine G_iinc (L' := [(5, .int z649371), (0, .int z649368), (4, .int z649370), (3, .int z649368), (6, .int 1), (1, .int p648996), (2, .ref q648994)]) z649371 4 dr_cJ6_getChars_ba4f3_44 rfl hz649371.symm (Nat.le_of_ble_eq_true rfl) rfl ?_
          refine G_iload 0 dr_cJ6_getChars_ba4f3_47 rfl ?_
          refine G_gets dr_cJ6_getChars_ba4f3_49 wr_8_114 gr_on (fun x649373 hx649372 => ?_)
          subst hx649372
          refine G_iload 2 dr_cJ6_getChars_ba4f3_52 rfl ?_
          refine G_kbald (f := dg_O) dr_cJ6_getChars_ba4f3_54 gr_ont (gB_inr (by omega) (by omega)) (G_nam fun z649374 hz649374 => ?_)
          have bz649374 : gB z649374 (-2147483648) 2147483647 := gB_any z649374
          refine Gp_bast 1 hmq648994 he649318 dr_cJ6_getChars_ba4f3_55 rfl (gB_inr (by omega) (by omega)) (fun F649375 e649376 n649377 => ?_)
          obtain ⟨f649378, hf649378⟩ : ∃ z, z = upd f649316 z649371.toNatClampNeg (vp_nar .byte z649374) := ⟨_, rfl⟩
          rw [← hf649378] at e649376
          have he649379 : F649375 q648994 = .inl (I .byte, n648998, .inl f649378) := e649376
          have hfr649380 : rFr [q648994] P648992 F648993 F649375 := rFr_put' List.mem_cons_self hfr649319 n649377
          have bf649378 : gF f649378 (-128) 127 := gF_upd hf649378 bf649316 gB_byte
          refine G_aload_n 6 dr_cJ6_getChars_ba4f3_56 rfl ?_
          obtain ⟨z649381, hz649381⟩ : ∃ z : Int32, z = z649371 + Int32.ofInt (-1) := ⟨_, rfl⟩
          have ez649381 : z649381.toInt = z649371.toInt + (-1) := gI_inc hz649381 (by decide) bz649371 (by decide) (by decide)
          have bz649381 : gB z649381 0 16777214 := ⟨by omega, by omega⟩
          refine G_iinc (L' := [(5, .int z649381), (0, .int z649368), (4, .int z649370), (3, .int z649368), (6, .int 1), (1, .int p648996), (2, .ref q648994)]) z649381 0 dr_cJ6_getChars_ba4f3_57 rfl hz649381.symm (Nat.le_of_ble_eq_true rfl) rfl ?_
          refine G_iload 0 dr_cJ6_getChars_ba4f3_60 rfl ?_
          refine G_gets dr_cJ6_getChars_ba4f3_62 wr_8_116 gr_te (fun x649383 hx649382 => ?_)
          subst hx649382
          refine G_iload 2 dr_cJ6_getChars_ba4f3_65 rfl ?_
          refine G_kbald (f := dg_T) dr_cJ6_getChars_ba4f3_67 gr_tet (gB_inr (by omega) (by omega)) (G_nam fun z649384 hz649384 => ?_)
          have bz649384 : gB z649384 (-2147483648) 2147483647 := gB_any z649384
          refine Gp_bast 1 hmq648994 he649379 dr_cJ6_getChars_ba4f3_68 rfl (gB_inr (by omega) (by omega)) (fun F649385 e649386 n649387 => ?_)
          obtain ⟨f649388, hf649388⟩ : ∃ z, z = upd f649378 z649381.toNatClampNeg (vp_nar .byte z649384) := ⟨_, rfl⟩
          rw [← hf649388] at e649386
          have he649389 : F649385 q648994 = .inl (I .byte, n648998, .inl f649388) := e649386
          have hfr649390 : rFr [q648994] P648992 F648993 F649385 := rFr_put' List.mem_cons_self hfr649380 n649387
          have bf649388 : gF f649388 (-128) 127 := gF_upd hf649388 bf649378 gB_byte
          refine G_goto 22 dr_cJ6_getChars_ba4f3_69 (by decide +kernel) ?_
          refine G_lv (L' := [(6, .int 1), (5, .int z649381), (0, .int z649368), (1, .int p648996), (2, .ref q648994)]) [4, 0, 1, 5, 6] rfl ?_
          exact ih22_649322 F649385 z649381 z649368 f649388 (gB_w bz649381 (by decide) (by decide)) (gB_w bz649368 (by decide) (by decide)) bf649388 hfr649390 he649389 (by have qa0 : Int32.toInt 1 = 1 := (by decide); omega) (by have q10 : Int32.toInt 10 = 10 := (by decide); have q11 : Int32.toInt 11 = 11 := (by decide); first | exact dgB_up (dgS_ip x649000 (by omega) (by omega)) (by omega) (by omega) | exact dgB_up (dgS_in x649000 (by omega)) (by omega) (by omega) | exact dgB_up x649321 (by omega) (by omega) | exact dgB_up (dgB_st x649321 (by omega) (by omega) (by omega)) (by omega) (by omega)) (by have qa0 : Int32.toInt 1 = 1 := (by decide); omega) (by have qa0 : Int32.toInt 1 = 1 := (by decide); omega)
    exact hlp22_649322 ((-p648995.toInt).toNat + 1) F648993 p648996 p648995 f648997 bp648996 bp648995' bf648997 (rFr_v (rFr_rf (W := []) (P := P648992) (F := F648993)) (fun b hn => nm_n)) heq648994 (by have qa0 : Int32.toInt 1 = 1 := (by decide); omega) (by have q10 : Int32.toInt 10 = 10 := (by decide); have q11 : Int32.toInt 11 = 11 := (by decide); first | exact dgB_up (dgS_ip x649000 (by omega) (by omega)) (by omega) (by omega) | exact dgB_up (dgS_in x649000 (by omega)) (by omega) (by omega)) (by have qa0 : Int32.toInt 1 = 1 := (by decide); omega) (Nat.lt_succ_self _)
