theorem dr_cJ0_indexOf_2f485_0 : decode cJ0_indexOf_2f485 0 = .ok (.aload_n 0, 1) := by decide +kernel
theorem dr_cJ0_indexOf_2f485_1 : decode cJ0_indexOf_2f485 1 = .ok (.invokevirtual 335, 3) := by decide +kernel
theorem dr_cJ0_indexOf_2f485_4 : decode cJ0_indexOf_2f485 4 = .ok (.istore_n 2, 1) := by decide +kernel
theorem dr_cJ0_indexOf_2f485_5 : decode cJ0_indexOf_2f485 5 = .ok (.iload_n 2, 1) := by decide +kernel
theorem dr_cJ0_indexOf_2f485_6 : decode cJ0_indexOf_2f485 6 = .ok (.aload_n 1, 1) := by decide +kernel
theorem dr_cJ0_indexOf_2f485_7 : decode cJ0_indexOf_2f485 7 = .ok (.invokevirtual 335, 3) := by decide +kernel
theorem dr_cJ0_indexOf_2f485_10 : decode cJ0_indexOf_2f485 10 = .ok (.if_icmp .ne 36, 3) := by decide +kernel
theorem dr_cJ0_indexOf_2f485_13 : decode cJ0_indexOf_2f485 13 = .ok (.aload_n 0, 1) := by decide +kernel
theorem dr_cJ0_indexOf_2f485_14 : decode cJ0_indexOf_2f485 14 = .ok (.invokevirtual 492, 3) := by decide +kernel
theorem dr_cJ0_indexOf_2f485_17 : decode cJ0_indexOf_2f485 17 = .ok (.ifCond .eq 17, 3) := by decide +kernel
theorem dr_cJ0_indexOf_2f485_20 : decode cJ0_indexOf_2f485 20 = .ok (.aload_n 0, 1) := by decide +kernel
theorem dr_cJ0_indexOf_2f485_21 : decode cJ0_indexOf_2f485 21 = .ok (.getfield 9, 3) := by decide +kernel
theorem dr_cJ0_indexOf_2f485_24 : decode cJ0_indexOf_2f485 24 = .ok (.aload_n 1, 1) := by decide +kernel
theorem dr_cJ0_indexOf_2f485_25 : decode cJ0_indexOf_2f485 25 = .ok (.getfield 9, 3) := by decide +kernel
theorem dr_cJ0_indexOf_2f485_28 : decode cJ0_indexOf_2f485 28 = .ok (.invokestatic 647, 3) := by decide +kernel
theorem wr_8_200 : (Jvm.Cond.methodLink "java/lang/String" (647 : Nat) ({ cls := "java/lang/StringLatin1", name := "indexOf", desc := "([B[B)I" } : Jvm.MethodName)) ∈ gw := gw_8 200 rfl rfl
theorem wr_8_202 : (Jvm.Cond.code ({ cls := "java/lang/StringLatin1", name := "indexOf", desc := "([B[B)I" } : Jvm.MethodName) prog_37_method_24_code (2 : Nat) (Option.some Jvm.ClassFile.FieldType.int)) ∈ gw := gw_8 202 rfl rfl
theorem wr_8_201 : (Jvm.Cond.static ({ cls := "java/lang/StringLatin1", name := "indexOf", desc := "([B[B)I" } : Jvm.MethodName)) ∈ gw := gw_8 201 rfl rfl
theorem dr_cJ0_indexOf_2f485_31 : decode cJ0_indexOf_2f485 31 = .ok (.goto 14, 3) := by decide +kernel
theorem dr_cJ0_indexOf_2f485_45 : decode cJ0_indexOf_2f485 45 = .ok (.ireturn, 1) := by decide +kernel
theorem dr_cJ1_canEncode_9a6ad_0 : decode cJ1_canEncode_9a6ad 0 = .ok (.iload_n 0, 1) := by decide +kernel
theorem dr_cJ1_canEncode_9a6ad_1 : decode cJ1_canEncode_9a6ad 1 = .ok (.ifCond .lt 14, 3) := by decide +kernel
theorem dr_cJ1_canEncode_9a6ad_15 : decode cJ1_canEncode_9a6ad 15 = .ok (.iconst 0, 1) := by decide +kernel
theorem dr_cJ1_canEncode_9a6ad_16 : decode cJ1_canEncode_9a6ad 16 = .ok (.ireturn, 1) := by decide +kernel
theorem dr_cJ1_canEncode_9a6ad_4 : decode cJ1_canEncode_9a6ad 4 = .ok (.iload_n 0, 1) := by decide +kernel
theorem dr_cJ1_canEncode_9a6ad_5 : decode cJ1_canEncode_9a6ad 5 = .ok (.sipush 255, 3) := by decide +kernel
theorem dr_cJ1_canEncode_9a6ad_8 : decode cJ1_canEncode_9a6ad 8 = .ok (.if_icmp .gt 7, 3) := by decide +kernel
theorem dr_cJ1_canEncode_9a6ad_11 : decode cJ1_canEncode_9a6ad 11 = .ok (.iconst 1, 1) := by decide +kernel
theorem dr_cJ1_canEncode_9a6ad_12 : decode cJ1_canEncode_9a6ad 12 = .ok (.goto 4, 3) := by decide +kernel
theorem dr_cJ1_indexOfChar_4cfef_0 : decode cJ1_indexOfChar_4cfef 0 = .ok (.iload_n 1, 1) := by decide +kernel
theorem dr_cJ1_indexOfChar_4cfef_1 : decode cJ1_indexOfChar_4cfef 1 = .ok (.i2b, 1) := by decide +kernel
theorem dr_cJ1_indexOfChar_4cfef_2 : decode cJ1_indexOfChar_4cfef 2 = .ok (.istore 4, 2) := by decide +kernel
theorem dr_cJ1_indexOfChar_4cfef_4 : decode cJ1_indexOfChar_4cfef 4 = .ok (.iload_n 2, 1) := by decide +kernel
theorem dr_cJ1_indexOfChar_4cfef_5 : decode cJ1_indexOfChar_4cfef 5 = .ok (.istore 5, 2) := by decide +kernel
theorem dr_cJ1_indexOfChar_4cfef_7 : decode cJ1_indexOfChar_4cfef 7 = .ok (.iload 5, 2) := by decide +kernel
theorem dr_cJ1_indexOfChar_4cfef_9 : decode cJ1_indexOfChar_4cfef 9 = .ok (.iload_n 3, 1) := by decide +kernel
theorem dr_cJ1_indexOfChar_4cfef_10 : decode cJ1_indexOfChar_4cfef 10 = .ok (.if_icmp .ge 21, 3) := by decide +kernel
theorem dr_cJ1_indexOfChar_4cfef_31 : decode cJ1_indexOfChar_4cfef 31 = .ok (.iconst (-1), 1) := by decide +kernel
theorem dr_cJ1_indexOfChar_4cfef_32 : decode cJ1_indexOfChar_4cfef 32 = .ok (.ireturn, 1) := by decide +kernel
theorem dr_cJ1_indexOfChar_4cfef_13 : decode cJ1_indexOfChar_4cfef 13 = .ok (.aload_n 0, 1) := by decide +kernel
theorem dr_cJ1_indexOfChar_4cfef_14 : decode cJ1_indexOfChar_4cfef 14 = .ok (.iload 5, 2) := by decide +kernel
theorem dr_cJ1_indexOfChar_4cfef_16 : decode cJ1_indexOfChar_4cfef 16 = .ok (.baload, 1) := by decide +kernel
theorem dr_cJ1_indexOfChar_4cfef_17 : decode cJ1_indexOfChar_4cfef 17 = .ok (.iload 4, 2) := by decide +kernel
theorem dr_cJ1_indexOfChar_4cfef_19 : decode cJ1_indexOfChar_4cfef 19 = .ok (.if_icmp .ne 6, 3) := by decide +kernel
theorem dr_cJ1_indexOfChar_4cfef_25 : decode cJ1_indexOfChar_4cfef 25 = .ok (.iinc 5 1, 3) := by decide +kernel
theorem dr_cJ1_indexOfChar_4cfef_28 : decode cJ1_indexOfChar_4cfef 28 = .ok (.goto (-21), 3) := by decide +kernel
theorem dr_cJ1_indexOfChar_4cfef_22 : decode cJ1_indexOfChar_4cfef 22 = .ok (.iload 5, 2) := by decide +kernel
theorem dr_cJ1_indexOfChar_4cfef_24 : decode cJ1_indexOfChar_4cfef 24 = .ok (.ireturn, 1) := by decide +kernel
theorem dr_cJ1_indexOf_4cfef_0 : decode cJ1_indexOf_4cfef 0 = .ok (.iload_n 1, 1) := by decide +kernel
theorem dr_cJ1_indexOf_4cfef_1 : decode cJ1_indexOf_4cfef 1 = .ok (.invokestatic 88, 3) := by decide +kernel
theorem wr_9_2 : (Jvm.Cond.methodLink "java/lang/StringLatin1" (88 : Nat) ({ cls := "java/lang/StringLatin1", name := "canEncode", desc := "(I)Z" } : Jvm.MethodName)) ∈ gw := gw_9 2 rfl rfl
theorem wr_9_4 : (Jvm.Cond.code ({ cls := "java/lang/StringLatin1", name := "canEncode", desc := "(I)Z" } : Jvm.MethodName) prog_37_method_4_code (1 : Nat) (Option.some Jvm.ClassFile.FieldType.boolean)) ∈ gw := gw_9 4 rfl rfl
theorem wr_9_3 : (Jvm.Cond.static ({ cls := "java/lang/StringLatin1", name := "canEncode", desc := "(I)Z" } : Jvm.MethodName)) ∈ gw := gw_9 3 rfl rfl
theorem dr_cJ1_indexOf_4cfef_4 : decode cJ1_indexOf_4cfef 4 = .ok (.ifCond .ne 5, 3) := by decide +kernel
theorem dr_cJ1_indexOf_4cfef_7 : decode cJ1_indexOf_4cfef 7 = .ok (.iconst (-1), 1) := by decide +kernel
theorem dr_cJ1_indexOf_4cfef_8 : decode cJ1_indexOf_4cfef 8 = .ok (.ireturn, 1) := by decide +kernel
theorem dr_cJ1_indexOf_4cfef_9 : decode cJ1_indexOf_4cfef 9 = .ok (.iload_n 2, 1) := by decide +kernel
theorem dr_cJ1_indexOf_4cfef_10 : decode cJ1_indexOf_4cfef 10 = .ok (.iconst 0, 1) := by decide +kernel
theorem dr_cJ1_indexOf_4cfef_11 : decode cJ1_indexOf_4cfef 11 = .ok (.invokestatic 92, 3) := by decide +kernel
theorem wr_9_5 : (Jvm.Cond.methodLink "java/lang/StringLatin1" (92 : Nat) ({ cls := "java/lang/Math", name := "max", desc := "(II)I" } : Jvm.MethodName)) ∈ gw := gw_9 5 rfl rfl
theorem dr_cJ1_indexOf_4cfef_14 : decode cJ1_indexOf_4cfef 14 = .ok (.istore_n 2, 1) := by decide +kernel
theorem dr_cJ1_indexOf_4cfef_15 : decode cJ1_indexOf_4cfef 15 = .ok (.iload_n 3, 1) := by decide +kernel
theorem dr_cJ1_indexOf_4cfef_16 : decode cJ1_indexOf_4cfef 16 = .ok (.aload_n 0, 1) := by decide +kernel
theorem dr_cJ1_indexOf_4cfef_17 : decode cJ1_indexOf_4cfef 17 = .ok (.arraylength, 1) := by decide +kernel
theorem dr_cJ1_indexOf_4cfef_18 : decode cJ1_indexOf_4cfef 18 = .ok (.invokestatic 38, 3) := by decide +kernel
theorem wr_9_6 : (Jvm.Cond.methodLink "java/lang/StringLatin1" (38 : Nat) ({ cls := "java/lang/Math", name := "min", desc := "(II)I" } : Jvm.MethodName)) ∈ gw := gw_9 6 rfl rfl
theorem dr_cJ1_indexOf_4cfef_21 : decode cJ1_indexOf_4cfef 21 = .ok (.istore_n 3, 1) := by decide +kernel
theorem dr_cJ1_indexOf_4cfef_22 : decode cJ1_indexOf_4cfef 22 = .ok (.iload_n 2, 1) := by decide +kernel
theorem dr_cJ1_indexOf_4cfef_23 : decode cJ1_indexOf_4cfef 23 = .ok (.iload_n 3, 1) := by decide +kernel
theorem dr_cJ1_indexOf_4cfef_24 : decode cJ1_indexOf_4cfef 24 = .ok (.if_icmp .lt 5, 3) := by decide +kernel
theorem dr_cJ1_indexOf_4cfef_29 : decode cJ1_indexOf_4cfef 29 = .ok (.aload_n 0, 1) := by decide +kernel
theorem dr_cJ1_indexOf_4cfef_30 : decode cJ1_indexOf_4cfef 30 = .ok (.iload_n 1, 1) := by decide +kernel
theorem dr_cJ1_indexOf_4cfef_31 : decode cJ1_indexOf_4cfef 31 = .ok (.iload_n 2, 1) := by decide +kernel
theorem dr_cJ1_indexOf_4cfef_32 : decode cJ1_indexOf_4cfef 32 = .ok (.iload_n 3, 1) := by decide +kernel
theorem dr_cJ1_indexOf_4cfef_33 : decode cJ1_indexOf_4cfef 33 = .ok (.invokestatic 95, 3) := by decide +kernel
theorem wr_9_7 : (Jvm.Cond.methodLink "java/lang/StringLatin1" (95 : Nat) ({ cls := "java/lang/StringLatin1", name := "indexOfChar", desc := "([BIII)I" } : Jvm.MethodName)) ∈ gw := gw_9 7 rfl rfl
theorem wr_9_9 : (Jvm.Cond.code ({ cls := "java/lang/StringLatin1", name := "indexOfChar", desc := "([BIII)I" } : Jvm.MethodName) prog_37_method_23_code (6 : Nat) (Option.some Jvm.ClassFile.FieldType.int)) ∈ gw := gw_9 9 rfl rfl
theorem wr_9_8 : (Jvm.Cond.static ({ cls := "java/lang/StringLatin1", name := "indexOfChar", desc := "([BIII)I" } : Jvm.MethodName)) ∈ gw := gw_9 8 rfl rfl
theorem dr_cJ1_indexOf_4cfef_36 : decode cJ1_indexOf_4cfef 36 = .ok (.ireturn, 1) := by decide +kernel
theorem dr_cJ1_indexOf_4cfef_27 : decode cJ1_indexOf_4cfef 27 = .ok (.iconst (-1), 1) := by decide +kernel
theorem dr_cJ1_indexOf_4cfef_28 : decode cJ1_indexOf_4cfef 28 = .ok (.ireturn, 1) := by decide +kernel
theorem dr_cJ0_indexOf_7cf53_0 : decode cJ0_indexOf_7cf53 0 = .ok (.aload_n 0, 1) := by decide +kernel
theorem dr_cJ0_indexOf_7cf53_1 : decode cJ0_indexOf_7cf53 1 = .ok (.invokevirtual 492, 3) := by decide +kernel
theorem dr_cJ0_indexOf_7cf53_4 : decode cJ0_indexOf_7cf53 4 = .ok (.ifCond .eq 19, 3) := by decide +kernel
theorem dr_cJ0_indexOf_7cf53_7 : decode cJ0_indexOf_7cf53 7 = .ok (.aload_n 0, 1) := by decide +kernel
theorem dr_cJ0_indexOf_7cf53_8 : decode cJ0_indexOf_7cf53 8 = .ok (.getfield 9, 3) := by decide +kernel
theorem dr_cJ0_indexOf_7cf53_11 : decode cJ0_indexOf_7cf53 11 = .ok (.iload_n 1, 1) := by decide +kernel
theorem dr_cJ0_indexOf_7cf53_12 : decode cJ0_indexOf_7cf53 12 = .ok (.iload_n 2, 1) := by decide +kernel
theorem dr_cJ0_indexOf_7cf53_13 : decode cJ0_indexOf_7cf53 13 = .ok (.aload_n 0, 1) := by decide +kernel
theorem dr_cJ0_indexOf_7cf53_14 : decode cJ0_indexOf_7cf53 14 = .ok (.invokevirtual 505, 3) := by decide +kernel
theorem wr_8_238 : (Jvm.Cond.methodLink "java/lang/String" (505 : Nat) ({ cls := "java/lang/String", name := "length", desc := "()I" } : Jvm.MethodName)) ∈ gw := gw_8 238 rfl rfl
theorem dr_cJ0_indexOf_7cf53_17 : decode cJ0_indexOf_7cf53 17 = .ok (.invokestatic 637, 3) := by decide +kernel
theorem wr_8_239 : (Jvm.Cond.methodLink "java/lang/String" (637 : Nat) ({ cls := "java/lang/StringLatin1", name := "indexOf", desc := "([BIII)I" } : Jvm.MethodName)) ∈ gw := gw_8 239 rfl rfl
theorem wr_9_1 : (Jvm.Cond.code ({ cls := "java/lang/StringLatin1", name := "indexOf", desc := "([BIII)I" } : Jvm.MethodName) prog_37_method_22_code (4 : Nat) (Option.some Jvm.ClassFile.FieldType.int)) ∈ gw := gw_9 1 rfl rfl
theorem wr_9_0 : (Jvm.Cond.static ({ cls := "java/lang/StringLatin1", name := "indexOf", desc := "([BIII)I" } : Jvm.MethodName)) ∈ gw := gw_9 0 rfl rfl
theorem dr_cJ0_indexOf_7cf53_20 : decode cJ0_indexOf_7cf53 20 = .ok (.goto 16, 3) := by decide +kernel
theorem dr_cJ0_indexOf_7cf53_36 : decode cJ0_indexOf_7cf53 36 = .ok (.ireturn, 1) := by decide +kernel
theorem dr_cJ0_indexOf_0f7a4_0 : decode cJ0_indexOf_0f7a4 0 = .ok (.aload_n 0, 1) := by decide +kernel
theorem dr_cJ0_indexOf_0f7a4_1 : decode cJ0_indexOf_0f7a4 1 = .ok (.iload_n 1, 1) := by decide +kernel
theorem dr_cJ0_indexOf_0f7a4_2 : decode cJ0_indexOf_0f7a4 2 = .ok (.iconst 0, 1) := by decide +kernel
theorem dr_cJ0_indexOf_0f7a4_3 : decode cJ0_indexOf_0f7a4 3 = .ok (.invokevirtual 633, 3) := by decide +kernel
theorem wr_8_234 : (Jvm.Cond.methodLink "java/lang/String" (633 : Nat) ({ cls := "java/lang/String", name := "indexOf", desc := "(II)I" } : Jvm.MethodName)) ∈ gw := gw_8 234 rfl rfl
theorem wr_8_237 : (Jvm.Cond.code ({ cls := "java/lang/String", name := "indexOf", desc := "(II)I" } : Jvm.MethodName) prog_34_method_80_code (3 : Nat) (Option.some Jvm.ClassFile.FieldType.int)) ∈ gw := gw_8 237 rfl rfl
theorem wr_8_235 : (Jvm.Cond.instanceMethod ({ cls := "java/lang/String", name := "indexOf", desc := "(II)I" } : Jvm.MethodName)) ∈ gw := gw_8 235 rfl rfl
theorem wr_8_236 : (Jvm.Cond.selects "java/lang/String" ({ cls := "java/lang/String", name := "indexOf", desc := "(II)I" } : Jvm.MethodName) ({ cls := "java/lang/String", name := "indexOf", desc := "(II)I" } : Jvm.MethodName)) ∈ gw := gw_8 236 rfl rfl
theorem dr_cJ0_indexOf_0f7a4_6 : decode cJ0_indexOf_0f7a4 6 = .ok (.ireturn, 1) := by decide +kernel
theorem dr_cJ6_stringSize_0f7a4_0 : decode cJ6_stringSize_0f7a4 0 = .ok (.iconst 1, 1) := by decide +kernel
theorem dr_cJ6_stringSize_0f7a4_1 : decode cJ6_stringSize_0f7a4 1 = .ok (.istore_n 1, 1) := by decide +kernel
theorem dr_cJ6_stringSize_0f7a4_2 : decode cJ6_stringSize_0f7a4 2 = .ok (.iload_n 0, 1) := by decide +kernel
theorem dr_cJ6_stringSize_0f7a4_3 : decode cJ6_stringSize_0f7a4 3 = .ok (.ifCond .lt 8, 3) := by decide +kernel
theorem dr_cJ6_stringSize_0f7a4_11 : decode cJ6_stringSize_0f7a4 11 = .ok (.bipush (-10), 2) := by decide +kernel
theorem dr_cJ6_stringSize_0f7a4_13 : decode cJ6_stringSize_0f7a4 13 = .ok (.istore_n 2, 1) := by decide +kernel
theorem dr_cJ6_stringSize_0f7a4_14 : decode cJ6_stringSize_0f7a4 14 = .ok (.iconst 1, 1) := by decide +kernel
theorem dr_cJ6_stringSize_0f7a4_15 : decode cJ6_stringSize_0f7a4 15 = .ok (.istore_n 3, 1) := by decide +kernel
theorem dr_cJ6_stringSize_0f7a4_16 : decode cJ6_stringSize_0f7a4 16 = .ok (.iload_n 3, 1) := by decide +kernel
theorem dr_cJ6_stringSize_0f7a4_17 : decode cJ6_stringSize_0f7a4 17 = .ok (.bipush 10, 2) := by decide +kernel
theorem dr_cJ6_stringSize_0f7a4_19 : decode cJ6_stringSize_0f7a4 19 = .ok (.if_icmp .ge 23, 3) := by decide +kernel
theorem dr_cJ6_stringSize_0f7a4_42 : decode cJ6_stringSize_0f7a4 42 = .ok (.bipush 10, 2) := by decide +kernel
theorem dr_cJ6_stringSize_0f7a4_44 : decode cJ6_stringSize_0f7a4 44 = .ok (.iload_n 1, 1) := by decide +kernel
theorem dr_cJ6_stringSize_0f7a4_45 : decode cJ6_stringSize_0f7a4 45 = .ok (.iadd, 1) := by decide +kernel
theorem dr_cJ6_stringSize_0f7a4_46 : decode cJ6_stringSize_0f7a4 46 = .ok (.ireturn, 1) := by decide +kernel
theorem dr_cJ6_stringSize_0f7a4_22 : decode cJ6_stringSize_0f7a4 22 = .ok (.iload_n 0, 1) := by decide +kernel
theorem dr_cJ6_stringSize_0f7a4_23 : decode cJ6_stringSize_0f7a4 23 = .ok (.iload_n 2, 1) := by decide +kernel
theorem dr_cJ6_stringSize_0f7a4_24 : decode cJ6_stringSize_0f7a4 24 = .ok (.if_icmp .le 7, 3) := by decide +kernel
theorem dr_cJ6_stringSize_0f7a4_31 : decode cJ6_stringSize_0f7a4 31 = .ok (.bipush 10, 2) := by decide +kernel
theorem dr_cJ6_stringSize_0f7a4_33 : decode cJ6_stringSize_0f7a4 33 = .ok (.iload_n 2, 1) := by decide +kernel
theorem dr_cJ6_stringSize_0f7a4_34 : decode cJ6_stringSize_0f7a4 34 = .ok (.imul, 1) := by decide +kernel
theorem dr_cJ6_stringSize_0f7a4_35 : decode cJ6_stringSize_0f7a4 35 = .ok (.istore_n 2, 1) := by decide +kernel
theorem dr_cJ6_stringSize_0f7a4_36 : decode cJ6_stringSize_0f7a4 36 = .ok (.iinc 3 1, 3) := by decide +kernel
theorem dr_cJ6_stringSize_0f7a4_39 : decode cJ6_stringSize_0f7a4 39 = .ok (.goto (-23), 3) := by decide +kernel
theorem dr_cJ6_stringSize_0f7a4_27 : decode cJ6_stringSize_0f7a4 27 = .ok (.iload_n 3, 1) := by decide +kernel
theorem dr_cJ6_stringSize_0f7a4_28 : decode cJ6_stringSize_0f7a4 28 = .ok (.iload_n 1, 1) := by decide +kernel
theorem dr_cJ6_stringSize_0f7a4_29 : decode cJ6_stringSize_0f7a4 29 = .ok (.iadd, 1) := by decide +kernel
theorem dr_cJ6_stringSize_0f7a4_30 : decode cJ6_stringSize_0f7a4 30 = .ok (.ireturn, 1) := by decide +kernel
theorem dr_cJ6_stringSize_0f7a4_6 : decode cJ6_stringSize_0f7a4 6 = .ok (.iconst 0, 1) := by decide +kernel
theorem dr_cJ6_stringSize_0f7a4_7 : decode cJ6_stringSize_0f7a4 7 = .ok (.istore_n 1, 1) := by decide +kernel
theorem dr_cJ6_stringSize_0f7a4_8 : decode cJ6_stringSize_0f7a4 8 = .ok (.iload_n 0, 1) := by decide +kernel
theorem dr_cJ6_stringSize_0f7a4_9 : decode cJ6_stringSize_0f7a4 9 = .ok (.ineg, 1) := by decide +kernel
theorem dr_cJ6_stringSize_0f7a4_10 : decode cJ6_stringSize_0f7a4 10 = .ok (.istore_n 0, 1) := by decide +kernel
theorem dr_cJ6_getChars_ba4f3_0 : decode cJ6_getChars_ba4f3 0 = .ok (.iload_n 1, 1) := by decide +kernel
theorem dr_cJ6_getChars_ba4f3_1 : decode cJ6_getChars_ba4f3 1 = .ok (.istore 5, 2) := by decide +kernel
theorem dr_cJ6_getChars_ba4f3_3 : decode cJ6_getChars_ba4f3 3 = .ok (.iload_n 0, 1) := by decide +kernel
theorem dr_cJ6_getChars_ba4f3_4 : decode cJ6_getChars_ba4f3 4 = .ok (.ifCond .ge 7, 3) := by decide +kernel
theorem dr_cJ6_getChars_ba4f3_11 : decode cJ6_getChars_ba4f3 11 = .ok (.iconst 0, 1) := by decide +kernel
theorem dr_cJ6_getChars_ba4f3_12 : decode cJ6_getChars_ba4f3 12 = .ok (.istore 6, 2) := by decide +kernel
theorem dr_cJ6_getChars_ba4f3_14 : decode cJ6_getChars_ba4f3 14 = .ok (.iload 6, 2) := by decide +kernel
theorem dr_cJ6_getChars_ba4f3_16 : decode cJ6_getChars_ba4f3 16 = .ok (.ifCond .ne 6, 3) := by decide +kernel
theorem dr_cJ6_getChars_ba4f3_19 : decode cJ6_getChars_ba4f3 19 = .ok (.iload_n 0, 1) := by decide +kernel
theorem dr_cJ6_getChars_ba4f3_20 : decode cJ6_getChars_ba4f3 20 = .ok (.ineg, 1) := by decide +kernel
theorem dr_cJ6_getChars_ba4f3_21 : decode cJ6_getChars_ba4f3 21 = .ok (.istore_n 0, 1) := by decide +kernel
theorem dr_cJ6_getChars_ba4f3_22 : decode cJ6_getChars_ba4f3 22 = .ok (.iload_n 0, 1) := by decide +kernel
theorem dr_cJ6_getChars_ba4f3_23 : decode cJ6_getChars_ba4f3 23 = .ok (.bipush (-100), 2) := by decide +kernel
theorem dr_cJ6_getChars_ba4f3_25 : decode cJ6_getChars_ba4f3 25 = .ok (.if_icmp .gt 47, 3) := by decide +kernel
theorem dr_cJ6_getChars_ba4f3_72 : decode cJ6_getChars_ba4f3 72 = .ok (.aload_n 2, 1) := by decide +kernel
theorem dr_cJ6_getChars_ba4f3_73 : decode cJ6_getChars_ba4f3 73 = .ok (.iinc 5 (-1), 3) := by decide +kernel
theorem dr_cJ6_getChars_ba4f3_76 : decode cJ6_getChars_ba4f3 76 = .ok (.iload 5, 2) := by decide +kernel
theorem dr_cJ6_getChars_ba4f3_78 : decode cJ6_getChars_ba4f3 78 = .ok (.getstatic 83, 3) := by decide +kernel
theorem wr_8_118 : (Jvm.Cond.fieldLink "java/lang/Integer" (83 : Nat) "java/lang/Integer" "DigitOnes" "[B") ∈ gw := gw_8 118 rfl rfl
theorem dr_cJ6_getChars_ba4f3_81 : decode cJ6_getChars_ba4f3 81 = .ok (.iload_n 0, 1) := by decide +kernel
theorem dr_cJ6_getChars_ba4f3_82 : decode cJ6_getChars_ba4f3 82 = .ok (.ineg, 1) := by decide +kernel
theorem dr_cJ6_getChars_ba4f3_83 : decode cJ6_getChars_ba4f3 83 = .ok (.baload, 1) := by decide +kernel
theorem dr_cJ6_getChars_ba4f3_84 : decode cJ6_getChars_ba4f3 84 = .ok (.bastore, 1) := by decide +kernel
theorem dr_cJ6_getChars_ba4f3_85 : decode cJ6_getChars_ba4f3 85 = .ok (.iload_n 0, 1) := by decide +kernel
theorem dr_cJ6_getChars_ba4f3_86 : decode cJ6_getChars_ba4f3 86 = .ok (.bipush (-9), 2) := by decide +kernel
theorem dr_cJ6_getChars_ba4f3_88 : decode cJ6_getChars_ba4f3 88 = .ok (.if_icmp .ge 16, 3) := by decide +kernel
theorem dr_cJ6_getChars_ba4f3_104 : decode cJ6_getChars_ba4f3 104 = .ok (.iload 6, 2) := by decide +kernel
theorem dr_cJ6_getChars_ba4f3_106 : decode cJ6_getChars_ba4f3 106 = .ok (.ifCond .eq 12, 3) := by decide +kernel
theorem dr_cJ6_getChars_ba4f3_118 : decode cJ6_getChars_ba4f3 118 = .ok (.iload 5, 2) := by decide +kernel
theorem dr_cJ6_getChars_ba4f3_120 : decode cJ6_getChars_ba4f3 120 = .ok (.ireturn, 1) := by decide +kernel
theorem dr_cJ6_getChars_ba4f3_91 : decode cJ6_getChars_ba4f3 91 = .ok (.aload_n 2, 1) := by decide +kernel
theorem dr_cJ6_getChars_ba4f3_92 : decode cJ6_getChars_ba4f3 92 = .ok (.iinc 5 (-1), 3) := by decide +kernel
theorem dr_cJ6_getChars_ba4f3_95 : decode cJ6_getChars_ba4f3 95 = .ok (.iload 5, 2) := by decide +kernel
theorem dr_cJ6_getChars_ba4f3_97 : decode cJ6_getChars_ba4f3 97 = .ok (.getstatic 87, 3) := by decide +kernel
theorem wr_8_120 : (Jvm.Cond.fieldLink "java/lang/Integer" (87 : Nat) "java/lang/Integer" "DigitTens" "[B") ∈ gw := gw_8 120 rfl rfl
theorem dr_cJ6_getChars_ba4f3_100 : decode cJ6_getChars_ba4f3 100 = .ok (.iload_n 0, 1) := by decide +kernel
theorem dr_cJ6_getChars_ba4f3_101 : decode cJ6_getChars_ba4f3 101 = .ok (.ineg, 1) := by decide +kernel
theorem dr_cJ6_getChars_ba4f3_102 : decode cJ6_getChars_ba4f3 102 = .ok (.baload, 1) := by decide +kernel
theorem dr_cJ6_getChars_ba4f3_103 : decode cJ6_getChars_ba4f3 103 = .ok (.bastore, 1) := by decide +kernel
theorem dr_cJ6_getChars_ba4f3_28 : decode cJ6_getChars_ba4f3 28 = .ok (.iload_n 0, 1) := by decide +kernel
theorem dr_cJ6_getChars_ba4f3_29 : decode cJ6_getChars_ba4f3 29 = .ok (.bipush 100, 2) := by decide +kernel
theorem dr_cJ6_getChars_ba4f3_31 : decode cJ6_getChars_ba4f3 31 = .ok (.idiv, 1) := by decide +kernel
theorem dr_cJ6_getChars_ba4f3_32 : decode cJ6_getChars_ba4f3 32 = .ok (.istore_n 3, 1) := by decide +kernel
theorem dr_cJ6_getChars_ba4f3_33 : decode cJ6_getChars_ba4f3 33 = .ok (.iload_n 3, 1) := by decide +kernel
theorem dr_cJ6_getChars_ba4f3_34 : decode cJ6_getChars_ba4f3 34 = .ok (.bipush 100, 2) := by decide +kernel
theorem dr_cJ6_getChars_ba4f3_36 : decode cJ6_getChars_ba4f3 36 = .ok (.imul, 1) := by decide +kernel
theorem dr_cJ6_getChars_ba4f3_37 : decode cJ6_getChars_ba4f3 37 = .ok (.iload_n 0, 1) := by decide +kernel
theorem dr_cJ6_getChars_ba4f3_38 : decode cJ6_getChars_ba4f3 38 = .ok (.isub, 1) := by decide +kernel
theorem dr_cJ6_getChars_ba4f3_39 : decode cJ6_getChars_ba4f3 39 = .ok (.istore 4, 2) := by decide +kernel
theorem dr_cJ6_getChars_ba4f3_41 : decode cJ6_getChars_ba4f3 41 = .ok (.iload_n 3, 1) := by decide +kernel
theorem dr_cJ6_getChars_ba4f3_42 : decode cJ6_getChars_ba4f3 42 = .ok (.istore_n 0, 1) := by decide +kernel
theorem dr_cJ6_getChars_ba4f3_43 : decode cJ6_getChars_ba4f3 43 = .ok (.aload_n 2, 1) := by decide +kernel
theorem dr_cJ6_getChars_ba4f3_44 : decode cJ6_getChars_ba4f3 44 = .ok (.iinc 5 (-1), 3) := by decide +kernel
theorem dr_cJ6_getChars_ba4f3_47 : decode cJ6_getChars_ba4f3 47 = .ok (.iload 5, 2) := by decide +kernel
theorem dr_cJ6_getChars_ba4f3_49 : decode cJ6_getChars_ba4f3 49 = .ok (.getstatic 83, 3) := by decide +kernel
theorem dr_cJ6_getChars_ba4f3_52 : decode cJ6_getChars_ba4f3 52 = .ok (.iload 4, 2) := by decide +kernel
theorem dr_cJ6_getChars_ba4f3_54 : decode cJ6_getChars_ba4f3 54 = .ok (.baload, 1) := by decide +kernel
theorem dr_cJ6_getChars_ba4f3_55 : decode cJ6_getChars_ba4f3 55 = .ok (.bastore, 1) := by decide +kernel
theorem dr_cJ6_getChars_ba4f3_56 : decode cJ6_getChars_ba4f3 56 = .ok (.aload_n 2, 1) := by decide +kernel
theorem dr_cJ6_getChars_ba4f3_57 : decode cJ6_getChars_ba4f3 57 = .ok (.iinc 5 (-1), 3) := by decide +kernel
theorem dr_cJ6_getChars_ba4f3_60 : decode cJ6_getChars_ba4f3 60 = .ok (.iload 5, 2) := by decide +kernel
theorem dr_cJ6_getChars_ba4f3_62 : decode cJ6_getChars_ba4f3 62 = .ok (.getstatic 87, 3) := by decide +kernel
theorem dr_cJ6_getChars_ba4f3_65 : decode cJ6_getChars_ba4f3 65 = .ok (.iload 4, 2) := by decide +kernel
theorem dr_cJ6_getChars_ba4f3_67 : decode cJ6_getChars_ba4f3 67 = .ok (.baload, 1) := by decide +kernel
theorem dr_cJ6_getChars_ba4f3_68 : decode cJ6_getChars_ba4f3 68 = .ok (.bastore, 1) := by decide +kernel
theorem dr_cJ6_getChars_ba4f3_69 : decode cJ6_getChars_ba4f3 69 = .ok (.goto (-47), 3) := by decide +kernel
theorem dr_cJ6_getChars_ba4f3_7 : decode cJ6_getChars_ba4f3 7 = .ok (.iconst 1, 1) := by decide +kernel
theorem dr_cJ6_getChars_ba4f3_8 : decode cJ6_getChars_ba4f3 8 = .ok (.goto 4, 3) := by decide +kernel
theorem dr_cJ6_getChars_ba4f3_109 : decode cJ6_getChars_ba4f3 109 = .ok (.aload_n 2, 1) := by decide +kernel
theorem dr_cJ6_getChars_ba4f3_110 : decode cJ6_getChars_ba4f3 110 = .ok (.iinc 5 (-1), 3) := by decide +kernel
theorem dr_cJ6_getChars_ba4f3_113 : decode cJ6_getChars_ba4f3 113 = .ok (.iload 5, 2) := by decide +kernel
theorem dr_cJ6_getChars_ba4f3_115 : decode cJ6_getChars_ba4f3 115 = .ok (.bipush 45, 2) := by decide +kernel
theorem dr_cJ6_getChars_ba4f3_117 : decode cJ6_getChars_ba4f3 117 = .ok (.bastore, 1) := by decide +kernel
abbrev ky_641729_String_indexOf : gKey := (cJ0_indexOf_2f485, 3, "java/lang/String", (some FieldType.int), [], "indexOf", fun _ _ => True)
def pp_641729_String_indexOf (D : va_G) (I : FieldType → ClassId) (P641716 : List Nat) (F641717 : Nat → va_E) (q641718 : Nat) (q641719 : Nat) (qs641720 : Nat) (qb641721 : Nat) (bs641722 : List Int32) (p641723 : Int32) (p641724 : Int32) (f641725 : Nat → Int32) (n641726 : Nat) : Option Value → va_W → Nat → Nat → Prop := fun r w dc ds => ∃ (o648780 : Int32), r = some (.int o648780) ∧ w = va_pl P641716 F641717 ∧ dc ≤ 0 ∧ ds ≤ 0 ∧ gB o648780 (-2147483646) 16777215 ∧ (o648780.toInt < 0 ∨ o648780.toInt + (n641726 : Int) ≤ (bs641722.length : Int)) ∧ ixP (fun j => bs641722.getD j 0) f641725 o648780
set_option maxRecDepth 100000 in
set_option maxHeartbeats 4000000 in
theorem cp_641729_String_indexOf (l : Launch) (hl0 : l.stackTraces = false) (D : va_G) (I : FieldType → ClassId) (P641716 : List Nat) (F641717 : Nat → va_E) (q641718 : Nat) (q641719 : Nat) (qs641720 : Nat) (qb641721 : Nat) (bs641722 : List Int32) (p641723 : Int32) (p641724 : Int32) (f641725 : Nat → Int32) (n641726 : Nat) (hmq641718 : q641718 ∈ P641716) (hmq641719 : q641719 ∈ P641716) (heq641718 : F641717 q641718 = .inr (0, [.ref q641719, .int 0, .int p641723, .int p641724])) (heq641719 : F641717 q641719 = .inl (I .byte, n641726, .inl f641725)) (hbs641722 : ∀ A s H, (gV D I).2.2.2.1 A s H → gSC qs641720 qb641721 bs641722 A s H) (nbs641722 : (bs641722.length : Int) ≤ 65535) (lbs641722 : gLB bs641722) (bp641724 : gB p641724 0 1) (bf641725 : gF f641725 (-128) 127) (x641727 : 1 ≤ (n641726 : Int)) (x641728 : ((n641726 : Int) ≤ 16777216)) : CtA (gV D I) l yJ0_indexOf_2f485 cJ0_indexOf_2f485 3 (some FieldType.int) 2 51 0 0 [.ref qs641720, .ref q641718] (va_pl P641716 F641717) (pp_641729_String_indexOf D I P641716 F641717 q641718 q641719 qs641720 qb641721 bs641722 p641723 p641724 f641725 n641726) gNA := by
  refine CtA_ofF hl0 (by decide +kernel) (Nat.le_of_ble_eq_true rfl) ?_
  have bp641723 := gB_any p641723
  refine G_aload_n 0 dr_cJ0_indexOf_2f485_0 rfl ?_
  refine Gw_callVk (As := []) (gV_ok D I) (cp_640849_String_coder l hl0 D I P641716 F641717 qs641720 qb641721 bs641722 hbs641722 nbs641722 lbs641722) dr_cJ0_indexOf_2f485_1 ⟨wr_3_61, wr_1_21, wr_3_64, by decide, rfl, (Nat.le_of_ble_eq_true rfl), (Nat.le_of_ble_eq_true rfl)⟩ wr_3_62 wr_3_63 (fun _ _ _ h => (hbs641722 _ _ _ h).1) (show 0 + 0 ≤ 0 by first | omega | decide) (show 0 + 0 ≤ 0 by first | omega | decide) (Nat.le_of_ble_eq_true rfl) (fun r641733 w641734 dc641730 ds641731 hp641732 => ?_) (fun _ _ _ _ _ z => z.elim)
  obtain ⟨rfl, rfl, hdc, hds⟩ := hp641732
  change G _ _ _ _ _ _ _ (.int 0 :: _) _ _ _
  refine G_widen (cs' := 0) (sl' := 0) (by omega) (by omega) ?_
  refine G_istore_n (L' := [(2, .int 0), (0, .ref qs641720), (1, .ref q641718)]) dr_cJ0_indexOf_2f485_4 (Nat.le_of_ble_eq_true rfl) rfl ?_
  refine G_iload_n 0 dr_cJ0_indexOf_2f485_5 rfl ?_
  refine G_aload_n 2 dr_cJ0_indexOf_2f485_6 rfl ?_
  refine Gw_callV (As := []) (gV_ok D I) (cp_640638_String_coder l hl0 D I P641716 F641717 q641718 q641719 p641723 p641724 f641725 n641726 hmq641718 hmq641719 heq641718 heq641719 bp641724 bf641725 (by have qa0 : Int32.toInt 0 = 0 := (by decide); omega)) dr_cJ0_indexOf_2f485_7 ⟨wr_3_61, wr_1_21, wr_3_64, by decide, rfl, (Nat.le_of_ble_eq_true rfl), (Nat.le_of_ble_eq_true rfl)⟩ wr_3_62 wr_3_63 hmq641718 heq641718 rfl (show 0 + 0 ≤ 0 by first | omega | decide) (show 0 + 0 ≤ 0 by first | omega | decide) (Nat.le_of_ble_eq_true rfl) (fun r641738 w641739 dc641735 ds641736 hp641737 => ?_) (fun _ _ _ _ _ z => z.elim)
  obtain ⟨rfl, rfl, hdc, hds⟩ := hp641737
  change G _ _ _ _ _ _ _ (.int 0 :: _) _ _ _
  refine G_widen (cs' := 0) (sl' := 0) (by omega) (by omega) ?_
  refine G_icmp_ne 46 dr_cJ0_indexOf_2f485_10 (by decide +kernel) (fun hc => absurd hc (by decide)) (fun _ => ?_)
  refine G_aload_n 1 dr_cJ0_indexOf_2f485_13 rfl ?_
  refine Gw_callVk (As := []) (gV_ok D I) (cp_641686_String_isLatin1 l hl0 D I P641716 F641717 qs641720 qb641721 bs641722 hbs641722 nbs641722 lbs641722) dr_cJ0_indexOf_2f485_14 ⟨wr_3_71, wr_1_21, wr_3_74, by decide, rfl, (Nat.le_of_ble_eq_true rfl), (Nat.le_of_ble_eq_true rfl)⟩ wr_3_72 wr_3_73 (fun _ _ _ h => (hbs641722 _ _ _ h).1) (show 0 + 0 ≤ 0 by first | omega | decide) (show 0 + 0 ≤ 0 by first | omega | decide) (Nat.le_of_ble_eq_true rfl) (fun r641743 w641744 dc641740 ds641741 hp641742 => ?_) (fun _ _ _ _ _ z => z.elim)
  obtain ⟨rfl, rfl, hdc, hds⟩ := hp641742
  change G _ _ _ _ _ _ _ (.int 1 :: _) _ _ _
  refine G_widen (cs' := 0) (sl' := 0) (by omega) (by omega) ?_
  refine G_if_eq 34 dr_cJ0_indexOf_2f485_17 (by decide +kernel) (fun hc => absurd hc (by decide)) (fun _ => ?_)
  refine G_aload_n 1 dr_cJ0_indexOf_2f485_20 rfl ?_
  refine G_kget dr_cJ0_indexOf_2f485_21 wr_8_182 (fun _ _ _ h => (hbs641722 _ _ _ h).2.2.1) ?_
  refine G_aload_n 2 dr_cJ0_indexOf_2f485_24 rfl ?_
  refine Gp_get 0 hmq641718 heq641718 dr_cJ0_indexOf_2f485_25 (gk_J0 D I) (Nat.le_of_ble_eq_true rfl) wr_8_182 rfl ?_
  refine Gw_callS (As := [.ref qb641721, .ref q641719]) (gV_ok D I) (cp_641754_StringLatin1_indexOf l hl0 D I P641716 F641717 q641719 qb641721 bs641722 f641725 n641726 hmq641719 heq641719 (fun _ _ _ h => (hbs641722 _ _ _ h).2.2.2) (by omega) lbs641722 bf641725 (by have qa0 : Int32.toInt 0 = 0 := (by decide); omega) (by have qa0 : Int32.toInt 0 = 0 := (by decide); omega)) dr_cJ0_indexOf_2f485_28 ⟨wr_8_200, wr_1_28, wr_8_202, by decide, rfl, (Nat.le_of_ble_eq_true rfl), (Nat.le_of_ble_eq_true rfl)⟩ wr_8_201 (show 0 + 0 ≤ 0 by first | omega | decide) (show 0 + 0 ≤ 0 by first | omega | decide) (Nat.le_of_ble_eq_true rfl) (fun r648775 w648776 dc648772 ds648773 hp648774 => ?_) (fun _ _ _ _ _ z => z.elim)
  obtain ⟨o648777, rfl, rfl, hdc, hds, bo648777, x648778, x648779⟩ := hp648774
  change G _ _ _ _ _ _ _ (.int o648777 :: _) _ _ _
  refine G_widen (cs' := 0) (sl' := 0) (by omega) (by omega) ?_
  refine G_goto 45 dr_cJ0_indexOf_2f485_31 (by decide +kernel) ?_
  exact G_iretA dr_cJ0_indexOf_2f485_45 rfl (Nat.le_of_ble_eq_true rfl) (Nat.le_of_ble_eq_true rfl) ⟨o648777, rfl, rfl, (Nat.le_of_ble_eq_true rfl), (Nat.le_of_ble_eq_true rfl), bo648777, (by have qa0 : Int32.toInt 0 = 0 := (by decide); omega), x648779⟩
abbrev ky_648820_StringLatin1_canEncode : gKey := (cJ1_canEncode_9a6ad, 1, "java/lang/StringLatin1", (some FieldType.boolean), [], "canEncode", fun _ _ => True)
def pp_648820_StringLatin1_canEncode (D : va_G) (I : FieldType → ClassId) (P648817 : List Nat) (F648818 : Nat → va_E) (p648819 : Int32) : Option Value → va_W → Nat → Nat → Prop := fun r w dc ds => (r = some (.int 0) ∧ w = va_pl P648817 F648818 ∧ dc ≤ 0 ∧ ds ≤ 0 ∧ p648819.toInt < 0) ∨ (r = some (.int 0) ∧ w = va_pl P648817 F648818 ∧ dc ≤ 0 ∧ ds ≤ 0 ∧ 0 ≤ p648819.toInt ∧ 255 < p648819.toInt) ∨ (r = some (.int 1) ∧ w = va_pl P648817 F648818 ∧ dc ≤ 0 ∧ ds ≤ 0 ∧ 0 ≤ p648819.toInt ∧ p648819.toInt ≤ 255)
set_option maxRecDepth 100000 in
set_option maxHeartbeats 4000000 in
theorem cp_648820_StringLatin1_canEncode (l : Launch) (hl0 : l.stackTraces = false) (D : va_G) (I : FieldType → ClassId) (P648817 : List Nat) (F648818 : Nat → va_E) (p648819 : Int32)  : CtA (gV D I) l yJ1_canEncode_9a6ad cJ1_canEncode_9a6ad 1 (some FieldType.boolean) 0 0 0 0 [.int p648819] (va_pl P648817 F648818) (pp_648820_StringLatin1_canEncode D I P648817 F648818 p648819) gNA := by
  refine CtA_ofF hl0 (by decide +kernel) (Nat.le_of_ble_eq_true rfl) ?_
  have bp648819 := gB_any p648819
  refine G_iload_n 0 dr_cJ1_canEncode_9a6ad_0 rfl ?_
  refine G_if_lt 15 dr_cJ1_canEncode_9a6ad_1 (by decide +kernel) (fun hc648821 => ?_) (fun hc648821 => ?_)
  · have r648822 : p648819.toInt < 0 := gj_lt hc648821 (show Int32.toInt 0 = 0 by decide)
    have bp648819' : gB p648819 (-2147483648) (-1) := ⟨by omega, by omega⟩
    refine G_iconst 0 dr_cJ1_canEncode_9a6ad_15 (by decide +kernel) ?_
    exact G_zretA FieldType.boolean dr_cJ1_canEncode_9a6ad_16 rfl rfl (Nat.le_of_ble_eq_true rfl) (Nat.le_of_ble_eq_true rfl) (Or.inl ⟨rfl, rfl, (Nat.le_of_ble_eq_true rfl), (Nat.le_of_ble_eq_true rfl), r648822⟩)
  · have r648823 : 0 ≤ p648819.toInt := gj_nlt hc648821 (show Int32.toInt 0 = 0 by decide)
    have bp648819' : gB p648819 0 2147483647 := ⟨by omega, by omega⟩
    refine G_iload_n 0 dr_cJ1_canEncode_9a6ad_4 rfl ?_
    refine G_sipush 255 dr_cJ1_canEncode_9a6ad_5 (by decide +kernel) ?_
    refine G_icmp_gt 15 dr_cJ1_canEncode_9a6ad_8 (by decide +kernel) (fun hc648824 => ?_) (fun hc648824 => ?_)
    · have r648825 : 255 < p648819.toInt := gj_ltL hc648824 (show Int32.toInt 255 = 255 by decide)
      have bp648819'' : gB p648819 256 2147483647 := ⟨by omega, by omega⟩
      refine G_iconst 0 dr_cJ1_canEncode_9a6ad_15 (by decide +kernel) ?_
      exact G_zretA FieldType.boolean dr_cJ1_canEncode_9a6ad_16 rfl rfl (Nat.le_of_ble_eq_true rfl) (Nat.le_of_ble_eq_true rfl) (Or.inr (Or.inl ⟨rfl, rfl, (Nat.le_of_ble_eq_true rfl), (Nat.le_of_ble_eq_true rfl), r648823, r648825⟩))
    · have r648826 : p648819.toInt ≤ 255 := gj_nltL hc648824 (show Int32.toInt 255 = 255 by decide)
      have bp648819'' : gB p648819 0 255 := ⟨by omega, by omega⟩
      refine G_iconst 1 dr_cJ1_canEncode_9a6ad_11 (by decide +kernel) ?_
      refine G_goto 16 dr_cJ1_canEncode_9a6ad_12 (by decide +kernel) ?_
      exact G_zretA FieldType.boolean dr_cJ1_canEncode_9a6ad_16 rfl rfl (Nat.le_of_ble_eq_true rfl) (Nat.le_of_ble_eq_true rfl) (Or.inr (Or.inr (⟨rfl, rfl, (Nat.le_of_ble_eq_true rfl), (Nat.le_of_ble_eq_true rfl), r648823, r648826⟩)))
abbrev ky_648851_StringLatin1_indexOfChar : gKey := (cJ1_indexOfChar_4cfef, 6, "java/lang/StringLatin1", (some FieldType.int), [], "indexOfChar", fun _ _ => True)
def pp_648851_StringLatin1_indexOfChar (D : va_G) (I : FieldType → ClassId) (P648843 : List Nat) (F648844 : Nat → va_E) (qs648845 : Nat) (bs648846 : List Int32) (p648847 : Int32) (p648848 : Int32) (p648849 : Int32) : Option Value → va_W → Nat → Nat → Prop := fun r w dc ds => ∃ (o648879 : Int32), r = some (.int o648879) ∧ w = va_pl P648843 F648844 ∧ dc ≤ 0 ∧ ds ≤ 0 ∧ gB o648879 (-1) 65534
set_option maxRecDepth 100000 in
set_option maxHeartbeats 4000000 in
theorem cp_648851_StringLatin1_indexOfChar (l : Launch) (hl0 : l.stackTraces = false) (D : va_G) (I : FieldType → ClassId) (P648843 : List Nat) (F648844 : Nat → va_E) (qs648845 : Nat) (bs648846 : List Int32) (p648847 : Int32) (p648848 : Int32) (p648849 : Int32) (hbs648846 : ∀ A s H, (gV D I).2.2.2.1 A s H → va_T .byte qs648845 bs648846.length (fun j => .int (bs648846.getD j 0)) A s H) (nbs648846 : (bs648846.length : Int) ≤ 65535) (lbs648846 : gLB bs648846) (bp648847 : gB p648847 0 65535) (bp648848 : gB p648848 0 65535) (bp648849 : gB p648849 0 65535) (x648850 : p648849.toInt ≤ (bs648846.length : Int)) : CtA (gV D I) l yJ1_indexOfChar_4cfef cJ1_indexOfChar_4cfef 6 (some FieldType.int) 0 0 0 0 [.ref qs648845, .int p648847, .int p648848, .int p648849] (va_pl P648843 F648844) (pp_648851_StringLatin1_indexOfChar D I P648843 F648844 qs648845 bs648846 p648847 p648848 p648849) gNA := by
  refine CtA_ofF hl0 (by decide +kernel) (Nat.le_of_ble_eq_true rfl) ?_
  refine G_iload_n 1 dr_cJ1_indexOfChar_4cfef_0 rfl ?_
  refine G_i2b dr_cJ1_indexOfChar_4cfef_1 (G_nam fun z648852 hz648852 => ?_)
  have bz648852 : gB z648852 (-128) 127 := gB_i2b hz648852
  refine G_istore (L' := [(4, .int z648852), (0, .ref qs648845), (1, .int p648847), (2, .int p648848), (3, .int p648849)]) dr_cJ1_indexOfChar_4cfef_2 (Nat.le_of_ble_eq_true rfl) rfl ?_
  refine G_iload_n 3 dr_cJ1_indexOfChar_4cfef_4 rfl ?_
  refine G_istore (L' := [(5, .int p648848), (4, .int z648852), (0, .ref qs648845), (1, .int p648847), (2, .int p648848), (3, .int p648849)]) dr_cJ1_indexOfChar_4cfef_5 (Nat.le_of_ble_eq_true rfl) rfl ?_
  have hlp7_648870 : ∀ (n7_648870 : Nat) (g648870 : Int32), gB g648870 0 65535 → ((65536 : Int) - g648870.toInt).toNat < n7_648870 → G (gV D I) l (gRm 0 0 0 0) (gMA (gV D I) (pp_648851_StringLatin1_indexOfChar D I P648843 F648844 qs648845 bs648846 p648847 p648848 p648849) gNA 0 0) ky_648851_StringLatin1_indexOfChar 7 [(5, .int g648870), (4, .int z648852), (0, .ref qs648845), (1, .int p648847), (2, .int p648848), (3, .int p648849)] [] (va_pl P648843 F648844) 0 0 := by
    intro n7_648870
    induction n7_648870 with
    | zero => intro g648870 bg648870 hm7_648870; exact absurd hm7_648870 (Nat.not_lt_zero _)
    | succ n7_648870 ih7_648870 =>
      intro g648870 bg648870 hm7_648870
      refine G_iload 0 dr_cJ1_indexOfChar_4cfef_7 rfl ?_
      refine G_iload_n 5 dr_cJ1_indexOfChar_4cfef_9 rfl ?_
      refine G_icmp_ge 31 dr_cJ1_indexOfChar_4cfef_10 (by decide +kernel) (fun hc648871 => ?_) (fun hc648871 => ?_)
      · have r648872 : p648849.toInt ≤ g648870.toInt := gC_le hc648871
        refine G_iconst (-1) dr_cJ1_indexOfChar_4cfef_31 (by decide +kernel) ?_
        exact G_iretA dr_cJ1_indexOfChar_4cfef_32 rfl (Nat.le_of_ble_eq_true rfl) (Nat.le_of_ble_eq_true rfl) ⟨(-1), rfl, rfl, (Nat.le_of_ble_eq_true rfl), (Nat.le_of_ble_eq_true rfl), (gB_w (gBl (show Int32.toInt (-1) = (-1) by decide)) (by decide) (by decide))⟩
      · have r648873 : g648870.toInt < p648849.toInt := gC_nle hc648871
        have bg648870' : gB g648870 0 65534 := ⟨by omega, by omega⟩
        have bp648849' : gB p648849 1 65535 := ⟨by omega, by omega⟩
        refine G_aload_n 2 dr_cJ1_indexOfChar_4cfef_13 rfl ?_
        refine G_iload 0 dr_cJ1_indexOfChar_4cfef_14 rfl ?_
        refine G_kbald (f := fun j => bs648846.getD j 0) dr_cJ1_indexOfChar_4cfef_16 hbs648846 (gB_inr (by omega) (by omega)) (G_nam fun z648874 hz648874 => ?_)
        have bz648874 : gB z648874 (-2147483648) 2147483647 := gB_any z648874
        refine G_iload 1 dr_cJ1_indexOfChar_4cfef_17 rfl ?_
        refine G_icmp_ne 25 dr_cJ1_indexOfChar_4cfef_19 (by decide +kernel) (fun hc648875 => ?_) (fun hc648875 => ?_)
        · have r648876 : z648874.toInt ≠ z648852.toInt := gC_ne hc648875
          obtain ⟨z648877, hz648877⟩ : ∃ z : Int32, z = g648870 + Int32.ofInt 1 := ⟨_, rfl⟩
          have ez648877 : z648877.toInt = g648870.toInt + 1 := gI_inc hz648877 (by decide) bg648870' (by decide) (by decide)
          have bz648877 : gB z648877 1 65535 := ⟨by omega, by omega⟩
          refine G_iinc (L' := [(5, .int z648877), (4, .int z648852), (0, .ref qs648845), (1, .int p648847), (2, .int p648848), (3, .int p648849)]) z648877 0 dr_cJ1_indexOfChar_4cfef_25 rfl hz648877.symm (Nat.le_of_ble_eq_true rfl) rfl ?_
          refine G_goto 7 dr_cJ1_indexOfChar_4cfef_28 (by decide +kernel) ?_
          exact ih7_648870 z648877 (gB_w bz648877 (by decide) (by decide)) (by omega)
        · have r648878 : z648874.toInt = z648852.toInt := gC_eq hc648875
          have bz648874' : gB z648874 (-128) 127 := ⟨by omega, by omega⟩
          refine G_iload 0 dr_cJ1_indexOfChar_4cfef_22 rfl ?_
          exact G_iretA dr_cJ1_indexOfChar_4cfef_24 rfl (Nat.le_of_ble_eq_true rfl) (Nat.le_of_ble_eq_true rfl) ⟨g648870, rfl, rfl, (Nat.le_of_ble_eq_true rfl), (Nat.le_of_ble_eq_true rfl), (gB_w bg648870' (by decide) (by decide))⟩
  exact hlp7_648870 (((65536 : Int) - p648848.toInt).toNat + 1) p648848 bp648848 (Nat.lt_succ_self _)
abbrev ky_648816_StringLatin1_indexOf : gKey := (cJ1_indexOf_4cfef, 4, "java/lang/StringLatin1", (some FieldType.int), [], "indexOf", fun _ _ => True)
def pp_648816_StringLatin1_indexOf (D : va_G) (I : FieldType → ClassId) (P648808 : List Nat) (F648809 : Nat → va_E) (qs648810 : Nat) (bs648811 : List Int32) (p648812 : Int32) (p648813 : Int32) (p648814 : Int32) : Option Value → va_W → Nat → Nat → Prop := fun r w dc ds => ∃ (o648887 : Int32), r = some (.int o648887) ∧ w = va_pl P648808 F648809 ∧ dc ≤ 0 ∧ ds ≤ 0 ∧ gB o648887 (-1) 65534
set_option maxRecDepth 100000 in
set_option maxHeartbeats 4000000 in
theorem cp_648816_StringLatin1_indexOf (l : Launch) (hl0 : l.stackTraces = false) (D : va_G) (I : FieldType → ClassId) (P648808 : List Nat) (F648809 : Nat → va_E) (qs648810 : Nat) (bs648811 : List Int32) (p648812 : Int32) (p648813 : Int32) (p648814 : Int32) (hbs648811 : ∀ A s H, (gV D I).2.2.2.1 A s H → va_T .byte qs648810 bs648811.length (fun j => .int (bs648811.getD j 0)) A s H) (nbs648811 : (bs648811.length : Int) ≤ 65535) (lbs648811 : gLB bs648811) (bp648812 : gB p648812 0 65535) (bp648813 : gB p648813 0 1) (bp648814 : gB p648814 0 65535) (x648815 : p648814.toInt = (bs648811.length : Int)) : CtA (gV D I) l yJ1_indexOf_4cfef cJ1_indexOf_4cfef 4 (some FieldType.int) 1 25 0 0 [.ref qs648810, .int p648812, .int p648813, .int p648814] (va_pl P648808 F648809) (pp_648816_StringLatin1_indexOf D I P648808 F648809 qs648810 bs648811 p648812 p648813 p648814) gNA := by
  refine CtA_ofF hl0 (by decide +kernel) (Nat.le_of_ble_eq_true rfl) ?_
  refine G_iload_n 1 dr_cJ1_indexOf_4cfef_0 rfl ?_
  refine Gw_callS (As := [.int p648812]) (gV_ok D I) (cp_648820_StringLatin1_canEncode l hl0 D I P648808 F648809 p648812 ) dr_cJ1_indexOf_4cfef_1 ⟨wr_9_2, wr_1_28, wr_9_4, by decide, rfl, (Nat.le_of_ble_eq_true rfl), (Nat.le_of_ble_eq_true rfl)⟩ wr_9_3 (show 0 + 0 ≤ 0 by first | omega | decide) (show 0 + 0 ≤ 0 by first | omega | decide) (Nat.le_of_ble_eq_true rfl) (fun r648830 w648831 dc648827 ds648828 hp648829 => ?_) (fun _ _ _ _ _ z => z.elim)
  rcases hp648829 with ⟨rfl, rfl, hdc, hds, r648832⟩ | ⟨rfl, rfl, hdc, hds, r648833, r648834⟩ | ⟨rfl, rfl, hdc, hds, r648835, r648836⟩
  · exact absurd (show False by omega) not_false
  · have bp648812' : gB p648812 256 65535 := ⟨by omega, by omega⟩
    change G _ _ _ _ _ _ _ (.int 0 :: _) _ _ _
    refine G_widen (cs' := 0) (sl' := 0) (by omega) (by omega) ?_
    refine G_if_ne 9 dr_cJ1_indexOf_4cfef_4 (by decide +kernel) (fun hc => absurd hc (by decide)) (fun _ => ?_)
    refine G_iconst (-1) dr_cJ1_indexOf_4cfef_7 (by decide +kernel) ?_
    exact G_iretA dr_cJ1_indexOf_4cfef_8 rfl (Nat.le_of_ble_eq_true rfl) (Nat.le_of_ble_eq_true rfl) ⟨(-1), rfl, rfl, (Nat.le_of_ble_eq_true rfl), (Nat.le_of_ble_eq_true rfl), (gB_w (gBl (show Int32.toInt (-1) = (-1) by decide)) (by decide) (by decide))⟩
  · have bp648812' : gB p648812 0 255 := ⟨by omega, by omega⟩
    change G _ _ _ _ _ _ _ (.int 1 :: _) _ _ _
    refine G_widen (cs' := 0) (sl' := 0) (by omega) (by omega) ?_
    refine G_if_ne 9 dr_cJ1_indexOf_4cfef_4 (by decide +kernel) (fun _ => ?_) (fun hc => absurd hc (by decide))
    refine G_iload_n 2 dr_cJ1_indexOf_4cfef_9 rfl ?_
    refine G_iconst 0 dr_cJ1_indexOf_4cfef_10 (by decide +kernel) ?_
    refine G_mmax dr_cJ1_indexOf_4cfef_11 wr_9_5 wr_1_140 wr_1_6 wr_1_141 (Nat.le_of_ble_eq_true rfl) (Nat.le_of_ble_eq_true rfl) (show 0 ≤ 0 by first | omega | decide) (show 0 ≤ 0 by first | omega | decide) (G_nam fun z648838 hz648838 => ?_)
    have ez648838 : p648813.toInt ≤ z648838.toInt ∧ 0 ≤ z648838.toInt ∧ (z648838.toInt = p648813.toInt ∨ z648838.toInt = 0) := by have := gI_max hz648838; rw [show Int32.toInt 0 = 0 from by decide] at this; omega
    have bz648838 : gB z648838 0 1 := ⟨by omega, by omega⟩
    refine G_istore_n (L' := [(2, .int z648838), (0, .ref qs648810), (1, .int p648812), (3, .int p648814)]) dr_cJ1_indexOf_4cfef_14 (Nat.le_of_ble_eq_true rfl) rfl ?_
    refine G_iload_n 3 dr_cJ1_indexOf_4cfef_15 rfl ?_
    refine G_aload_n 1 dr_cJ1_indexOf_4cfef_16 rfl ?_
    refine G_klen dr_cJ1_indexOf_4cfef_17 hbs648811 (G_nam fun z648839 hz648839 => ?_)
    have ez648839 : z648839.toInt = (bs648811.length : Int) := gI_ofN hz648839 nbs648811
    have bz648839 : gB z648839 0 65535 := ⟨by omega, by omega⟩
    refine G_mmin dr_cJ1_indexOf_4cfef_18 wr_9_6 wr_3_227 wr_1_6 wr_3_228 (Nat.le_of_ble_eq_true rfl) (Nat.le_of_ble_eq_true rfl) (show 0 ≤ 0 by first | omega | decide) (show 0 ≤ 0 by first | omega | decide) (G_nam fun z648840 hz648840 => ?_)
    have ez648840 : p648814.toInt ≥ z648840.toInt ∧ z648839.toInt ≥ z648840.toInt ∧ (z648840.toInt = p648814.toInt ∨ z648840.toInt = z648839.toInt) := by have := gI_min hz648840; omega
    have bz648840 : gB z648840 0 65535 := ⟨by omega, by omega⟩
    refine G_istore_n (L' := [(3, .int z648840), (2, .int z648838), (0, .ref qs648810), (1, .int p648812)]) dr_cJ1_indexOf_4cfef_21 (Nat.le_of_ble_eq_true rfl) rfl ?_
    refine G_iload_n 1 dr_cJ1_indexOf_4cfef_22 rfl ?_
    refine G_iload_n 0 dr_cJ1_indexOf_4cfef_23 rfl ?_
    refine G_icmp_lt 29 dr_cJ1_indexOf_4cfef_24 (by decide +kernel) (fun hc648841 => ?_) (fun hc648841 => ?_)
    · have r648842 : z648838.toInt < z648840.toInt := gC_lt hc648841
      have bz648840' : gB z648840 1 65535 := ⟨by omega, by omega⟩
      refine G_aload_n 2 dr_cJ1_indexOf_4cfef_29 rfl ?_
      refine G_iload_n 3 dr_cJ1_indexOf_4cfef_30 rfl ?_
      refine G_iload_n 1 dr_cJ1_indexOf_4cfef_31 rfl ?_
      refine G_iload_n 0 dr_cJ1_indexOf_4cfef_32 rfl ?_
      refine Gw_callS (As := [.ref qs648810, .int p648812, .int z648838, .int z648840]) (gV_ok D I) (cp_648851_StringLatin1_indexOfChar l hl0 D I P648808 F648809 qs648810 bs648811 p648812 z648838 z648840 hbs648811 nbs648811 lbs648811 (gB_w bp648812' (by decide) (by decide)) (gB_w bz648838 (by decide) (by decide)) (gB_w bz648840' (by decide) (by decide)) (by omega)) dr_cJ1_indexOf_4cfef_33 ⟨wr_9_7, wr_1_28, wr_9_9, by decide, rfl, (Nat.le_of_ble_eq_true rfl), (Nat.le_of_ble_eq_true rfl)⟩ wr_9_8 (show 0 + 0 ≤ 0 by first | omega | decide) (show 0 + 0 ≤ 0 by first | omega | decide) (Nat.le_of_ble_eq_true rfl) (fun r648883 w648884 dc648880 ds648881 hp648882 => ?_) (fun _ _ _ _ _ z => z.elim)
      obtain ⟨o648885, rfl, rfl, hdc, hds, bo648885⟩ := hp648882
      change G _ _ _ _ _ _ _ (.int o648885 :: _) _ _ _
      refine G_widen (cs' := 0) (sl' := 0) (by omega) (by omega) ?_
      exact G_iretA dr_cJ1_indexOf_4cfef_36 rfl (Nat.le_of_ble_eq_true rfl) (Nat.le_of_ble_eq_true rfl) ⟨o648885, rfl, rfl, (Nat.le_of_ble_eq_true rfl), (Nat.le_of_ble_eq_true rfl), bo648885⟩
    · have r648886 : z648840.toInt ≤ z648838.toInt := gC_nlt hc648841
      have bz648840' : gB z648840 0 1 := ⟨by omega, by omega⟩
      refine G_iconst (-1) dr_cJ1_indexOf_4cfef_27 (by decide +kernel) ?_
      exact G_iretA dr_cJ1_indexOf_4cfef_28 rfl (Nat.le_of_ble_eq_true rfl) (Nat.le_of_ble_eq_true rfl) ⟨(-1), rfl, rfl, (Nat.le_of_ble_eq_true rfl), (Nat.le_of_ble_eq_true rfl), (gB_w (gBl (show Int32.toInt (-1) = (-1) by decide)) (by decide) (by decide))⟩
abbrev ky_648795_String_indexOf : gKey := (cJ0_indexOf_7cf53, 3, "java/lang/String", (some FieldType.int), [], "indexOf", fun _ _ => True)
def pp_648795_String_indexOf (D : va_G) (I : FieldType → ClassId) (P648788 : List Nat) (F648789 : Nat → va_E) (qs648790 : Nat) (qb648791 : Nat) (bs648792 : List Int32) (p648793 : Int32) (p648794 : Int32) : Option Value → va_W → Nat → Nat → Prop := fun r w dc ds => ∃ (o648894 : Int32), r = some (.int o648894) ∧ w = va_pl P648788 F648789 ∧ dc ≤ 0 ∧ ds ≤ 0 ∧ gB o648894 (-1) 65534
set_option maxRecDepth 100000 in
set_option maxHeartbeats 4000000 in
theorem cp_648795_String_indexOf (l : Launch) (hl0 : l.stackTraces = false) (D : va_G) (I : FieldType → ClassId) (P648788 : List Nat) (F648789 : Nat → va_E) (qs648790 : Nat) (qb648791 : Nat) (bs648792 : List Int32) (p648793 : Int32) (p648794 : Int32) (hbs648792 : ∀ A s H, (gV D I).2.2.2.1 A s H → gSC qs648790 qb648791 bs648792 A s H) (nbs648792 : (bs648792.length : Int) ≤ 65535) (lbs648792 : gLB bs648792) (bp648793 : gB p648793 0 65535) (bp648794 : gB p648794 0 1) : CtA (gV D I) l yJ0_indexOf_7cf53 cJ0_indexOf_7cf53 3 (some FieldType.int) 2 48 0 0 [.ref qs648790, .int p648793, .int p648794] (va_pl P648788 F648789) (pp_648795_String_indexOf D I P648788 F648789 qs648790 qb648791 bs648792 p648793 p648794) gNA := by
  refine CtA_ofF hl0 (by decide +kernel) (Nat.le_of_ble_eq_true rfl) ?_
  refine G_aload_n 0 dr_cJ0_indexOf_7cf53_0 rfl ?_
  refine Gw_callVk (As := []) (gV_ok D I) (cp_641686_String_isLatin1 l hl0 D I P648788 F648789 qs648790 qb648791 bs648792 hbs648792 nbs648792 lbs648792) dr_cJ0_indexOf_7cf53_1 ⟨wr_3_71, wr_1_21, wr_3_74, by decide, rfl, (Nat.le_of_ble_eq_true rfl), (Nat.le_of_ble_eq_true rfl)⟩ wr_3_72 wr_3_73 (fun _ _ _ h => (hbs648792 _ _ _ h).1) (show 0 + 0 ≤ 0 by first | omega | decide) (show 0 + 0 ≤ 0 by first | omega | decide) (Nat.le_of_ble_eq_true rfl) (fun r648799 w648800 dc648796 ds648797 hp648798 => ?_) (fun _ _ _ _ _ z => z.elim)
  obtain ⟨rfl, rfl, hdc, hds⟩ := hp648798
  change G _ _ _ _ _ _ _ (.int 1 :: _) _ _ _
  refine G_widen (cs' := 0) (sl' := 0) (by omega) (by omega) ?_
  refine G_if_eq 23 dr_cJ0_indexOf_7cf53_4 (by decide +kernel) (fun hc => absurd hc (by decide)) (fun _ => ?_)
  refine G_aload_n 0 dr_cJ0_indexOf_7cf53_7 rfl ?_
  refine G_kget dr_cJ0_indexOf_7cf53_8 wr_8_182 (fun _ _ _ h => (hbs648792 _ _ _ h).2.2.1) ?_
  refine G_iload_n 1 dr_cJ0_indexOf_7cf53_11 rfl ?_
  refine G_iload_n 2 dr_cJ0_indexOf_7cf53_12 rfl ?_
  refine G_aload_n 0 dr_cJ0_indexOf_7cf53_13 rfl ?_
  refine Gw_callVk (As := []) (gV_ok D I) (cp_640842_String_length l hl0 D I P648788 F648789 qs648790 qb648791 bs648792 hbs648792 nbs648792 lbs648792) dr_cJ0_indexOf_7cf53_14 ⟨wr_8_238, wr_1_21, wr_3_60, by decide, rfl, (Nat.le_of_ble_eq_true rfl), (Nat.le_of_ble_eq_true rfl)⟩ wr_3_58 wr_3_59 (fun _ _ _ h => (hbs648792 _ _ _ h).1) (show 0 + 0 ≤ 0 by first | omega | decide) (show 0 + 0 ≤ 0 by first | omega | decide) (Nat.le_of_ble_eq_true rfl) (fun r648804 w648805 dc648801 ds648802 hp648803 => ?_) (fun _ _ _ _ _ z => z.elim)
  obtain ⟨o648806, rfl, rfl, hdc, hds, bo648806, x648807⟩ := hp648803
  change G _ _ _ _ _ _ _ (.int o648806 :: _) _ _ _
  refine G_widen (cs' := 0) (sl' := 0) (by omega) (by omega) ?_
  refine Gw_callS (As := [.ref qb648791, .int p648793, .int p648794, .int o648806]) (gV_ok D I) (cp_648816_StringLatin1_indexOf l hl0 D I P648788 F648789 qb648791 bs648792 p648793 p648794 o648806 (fun _ _ _ h => (hbs648792 _ _ _ h).2.2.2) (by omega) lbs648792 bp648793 bp648794 bo648806 (by omega)) dr_cJ0_indexOf_7cf53_17 ⟨wr_8_239, wr_1_28, wr_9_1, by decide, rfl, (Nat.le_of_ble_eq_true rfl), (Nat.le_of_ble_eq_true rfl)⟩ wr_9_0 (show 0 + 0 ≤ 0 by first | omega | decide) (show 0 + 0 ≤ 0 by first | omega | decide) (Nat.le_of_ble_eq_true rfl) (fun r648891 w648892 dc648888 ds648889 hp648890 => ?_) (fun _ _ _ _ _ z => z.elim)
  obtain ⟨o648893, rfl, rfl, hdc, hds, bo648893⟩ := hp648890
  change G _ _ _ _ _ _ _ (.int o648893 :: _) _ _ _
  refine G_widen (cs' := 0) (sl' := 0) (by omega) (by omega) ?_
  refine G_goto 36 dr_cJ0_indexOf_7cf53_20 (by decide +kernel) ?_
  exact G_iretA dr_cJ0_indexOf_7cf53_36 rfl (Nat.le_of_ble_eq_true rfl) (Nat.le_of_ble_eq_true rfl) ⟨o648893, rfl, rfl, (Nat.le_of_ble_eq_true rfl), (Nat.le_of_ble_eq_true rfl), bo648893⟩
abbrev ky_648787_String_indexOf : gKey := (cJ0_indexOf_0f7a4, 2, "java/lang/String", (some FieldType.int), [], "indexOf", fun _ _ => True)
def pp_648787_String_indexOf (D : va_G) (I : FieldType → ClassId) (P648781 : List Nat) (F648782 : Nat → va_E) (qs648783 : Nat) (qb648784 : Nat) (bs648785 : List Int32) (p648786 : Int32) : Option Value → va_W → Nat → Nat → Prop := fun r w dc ds => ∃ (o648901 : Int32), r = some (.int o648901) ∧ w = va_pl P648781 F648782 ∧ dc ≤ 0 ∧ ds ≤ 0 ∧ gB o648901 (-1) 65534
set_option maxRecDepth 100000 in
set_option maxHeartbeats 4000000 in
theorem cp_648787_String_indexOf (l : Launch) (hl0 : l.stackTraces = false) (D : va_G) (I : FieldType → ClassId) (P648781 : List Nat) (F648782 : Nat → va_E) (qs648783 : Nat) (qb648784 : Nat) (bs648785 : List Int32) (p648786 : Int32) (hbs648785 : ∀ A s H, (gV D I).2.2.2.1 A s H → gSC qs648783 qb648784 bs648785 A s H) (nbs648785 : (bs648785.length : Int) ≤ 65535) (lbs648785 : gLB bs648785) (bp648786 : gB p648786 0 65535) : CtA (gV D I) l yJ0_indexOf_0f7a4 cJ0_indexOf_0f7a4 2 (some FieldType.int) 3 70 0 0 [.ref qs648783, .int p648786] (va_pl P648781 F648782) (pp_648787_String_indexOf D I P648781 F648782 qs648783 qb648784 bs648785 p648786) gNA := by
  refine CtA_ofF hl0 (by decide +kernel) (Nat.le_of_ble_eq_true rfl) ?_
  refine G_aload_n 0 dr_cJ0_indexOf_0f7a4_0 rfl ?_
  refine G_iload_n 1 dr_cJ0_indexOf_0f7a4_1 rfl ?_
  refine G_iconst 0 dr_cJ0_indexOf_0f7a4_2 (by decide +kernel) ?_
  refine Gw_callVk (As := [.int p648786, .int 0]) (gV_ok D I) (cp_648795_String_indexOf l hl0 D I P648781 F648782 qs648783 qb648784 bs648785 p648786 0 hbs648785 nbs648785 lbs648785 bp648786 (gB_w (gBl (show Int32.toInt 0 = 0 by decide)) (by decide) (by decide))) dr_cJ0_indexOf_0f7a4_3 ⟨wr_8_234, wr_1_21, wr_8_237, by decide, rfl, (Nat.le_of_ble_eq_true rfl), (Nat.le_of_ble_eq_true rfl)⟩ wr_8_235 wr_8_236 (fun _ _ _ h => (hbs648785 _ _ _ h).1) (show 0 + 0 ≤ 0 by first | omega | decide) (show 0 + 0 ≤ 0 by first | omega | decide) (Nat.le_of_ble_eq_true rfl) (fun r648898 w648899 dc648895 ds648896 hp648897 => ?_) (fun _ _ _ _ _ z => z.elim)
  obtain ⟨o648900, rfl, rfl, hdc, hds, bo648900⟩ := hp648897
  change G _ _ _ _ _ _ _ (.int o648900 :: _) _ _ _
  refine G_widen (cs' := 0) (sl' := 0) (by omega) (by omega) ?_
  exact G_iretA dr_cJ0_indexOf_0f7a4_6 rfl (Nat.le_of_ble_eq_true rfl) (Nat.le_of_ble_eq_true rfl) ⟨o648900, rfl, rfl, (Nat.le_of_ble_eq_true rfl), (Nat.le_of_ble_eq_true rfl), bo648900⟩
abbrev ky_648931_Integer_stringSize : gKey := (cJ6_stringSize_0f7a4, 4, "java/lang/Integer", (some FieldType.int), [], "stringSize", fun _ _ => True)
def pp_648931_Integer_stringSize (D : va_G) (I : FieldType → ClassId) (P648928 : List Nat) (F648929 : Nat → va_E) (p648930 : Int32) : Option Value → va_W → Nat → Nat → Prop := fun r w dc ds => ∃ (o649058 : Int32), r = some (.int o649058) ∧ w = va_pl P648928 F648929 ∧ dc ≤ 0 ∧ ds ≤ 0 ∧ gB o649058 1 11 ∧ dgS p648930.toInt o649058.toInt
set_option maxRecDepth 100000 in
set_option maxHeartbeats 4000000 in
theorem cp_648931_Integer_stringSize (l : Launch) (hl0 : l.stackTraces = false) (D : va_G) (I : FieldType → ClassId) (P648928 : List Nat) (F648929 : Nat → va_E) (p648930 : Int32)  : CtA (gV D I) l yJ6_stringSize_0f7a4 cJ6_stringSize_0f7a4 4 (some FieldType.int) 0 0 0 0 [.int p648930] (va_pl P648928 F648929) (pp_648931_Integer_stringSize D I P648928 F648929 p648930) gNA := by
  refine CtA_ofF hl0 (by decide +kernel) (Nat.le_of_ble_eq_true rfl) ?_
  have bp648930 := gB_any p648930
  refine G_iconst 1 dr_cJ6_stringSize_0f7a4_0 (by decide +kernel) ?_
  refine G_istore_n (L' := [(1, .int 1), (0, .int p648930)]) dr_cJ6_stringSize_0f7a4_1 (Nat.le_of_ble_eq_true rfl) rfl ?_
  refine G_iload_n 1 dr_cJ6_stringSize_0f7a4_2 rfl ?_
  refine G_if_lt 11 dr_cJ6_stringSize_0f7a4_3 (by decide +kernel) (fun hc648932 => ?_) (fun hc648932 => ?_)
  · have r648933 : p648930.toInt < 0 := gj_lt hc648932 (show Int32.toInt 0 = 0 by decide)
    have bp648930' : gB p648930 (-2147483648) (-1) := ⟨by omega, by omega⟩
    refine G_bipush (-10) dr_cJ6_stringSize_0f7a4_11 (by decide +kernel) ?_
    refine G_istore_n (L' := [(2, .int (-10)), (1, .int 1), (0, .int p648930)]) dr_cJ6_stringSize_0f7a4_13 (Nat.le_of_ble_eq_true rfl) rfl ?_
    refine G_iconst 1 dr_cJ6_stringSize_0f7a4_14 (by decide +kernel) ?_
    refine G_istore_n (L' := [(3, .int 1), (2, .int (-10)), (1, .int 1), (0, .int p648930)]) dr_cJ6_stringSize_0f7a4_15 (Nat.le_of_ble_eq_true rfl) rfl ?_
    have hlp16_648985 : ∀ (n16_648985 : Nat) (g648983 : Int32) (g648984 : Int32), gB g648983 1 10 → ssI g648983 g648984 → ((11 : Int) - g648983.toInt).toNat < n16_648985 → G (gV D I) l (gRm 0 0 0 0) (gMA (gV D I) (pp_648931_Integer_stringSize D I P648928 F648929 p648930) gNA 0 0) ky_648931_Integer_stringSize 16 [(3, .int g648983), (2, .int g648984), (1, .int 1), (0, .int p648930)] [] (va_pl P648928 F648929) 0 0 := by
      intro n16_648985
      induction n16_648985 with
      | zero => intro g648983 g648984 bg648983 x648985 hm16_648985; exact absurd hm16_648985 (Nat.not_lt_zero _)
      | succ n16_648985 ih16_648985 =>
        intro g648983 g648984 bg648983 x648985 hm16_648985
        have bg648984 := gB_any g648984
        refine G_iload_n 0 dr_cJ6_stringSize_0f7a4_16 rfl ?_
        refine G_bipush 10 dr_cJ6_stringSize_0f7a4_17 (by decide +kernel) ?_
        refine G_icmp_ge 42 dr_cJ6_stringSize_0f7a4_19 (by decide +kernel) (fun hc648986 => ?_) (fun hc648986 => ?_)
        · have r648987 : 10 ≤ g648983.toInt := gj_leL hc648986 (show Int32.toInt 10 = 10 by decide)
          have bg648983' : gB g648983 10 10 := ⟨by omega, by omega⟩
          refine G_bipush 10 dr_cJ6_stringSize_0f7a4_42 (by decide +kernel) ?_
          refine G_iload_n 2 dr_cJ6_stringSize_0f7a4_44 rfl ?_
          refine G_iadd dr_cJ6_stringSize_0f7a4_45 ?_
          refine G_eqi (y := 11) (by decide) ?_
          exact G_iretA dr_cJ6_stringSize_0f7a4_46 rfl (Nat.le_of_ble_eq_true rfl) (Nat.le_of_ble_eq_true rfl) ⟨11, rfl, rfl, (Nat.le_of_ble_eq_true rfl), (Nat.le_of_ble_eq_true rfl), (gB_w (gBl (show Int32.toInt 11 = 11 by decide)) (by decide) (by decide)), (by have q10 : Int32.toInt 10 = 10 := (by decide); have q11 : Int32.toInt 11 = 11 := (by decide); first | exact dgS_p (x := -p648930.toInt) (by omega) rfl (dgB_up (ssI_r x648985 (by omega) (fun _ => by omega)) (by omega) (by omega)) | exact dgS_n (by omega) (by omega) (ssI_r x648985 (by omega) (fun _ => by omega)))⟩
        · have r648988 : g648983.toInt < 10 := gj_nleL hc648986 (show Int32.toInt 10 = 10 by decide)
          have bg648983' : gB g648983 1 9 := ⟨by omega, by omega⟩
          refine G_iload_n 3 dr_cJ6_stringSize_0f7a4_22 rfl ?_
          refine G_iload_n 1 dr_cJ6_stringSize_0f7a4_23 rfl ?_
          refine G_icmp_le 31 dr_cJ6_stringSize_0f7a4_24 (by decide +kernel) (fun hc648989 => ?_) (fun hc648989 => ?_)
          · have r648990 : p648930.toInt ≤ g648984.toInt := gC_le hc648989
            refine G_bipush 10 dr_cJ6_stringSize_0f7a4_31 (by decide +kernel) ?_
            refine G_iload_n 1 dr_cJ6_stringSize_0f7a4_33 rfl ?_
            refine G_imul dr_cJ6_stringSize_0f7a4_34 (G_nam fun z648991 hz648991 => ?_)
            have bz648991 : gB z648991 (-2147483648) 2147483647 := gB_any z648991
            refine G_istore_n (L' := [(2, .int z648991), (3, .int g648983), (1, .int 1), (0, .int p648930)]) dr_cJ6_stringSize_0f7a4_35 (Nat.le_of_ble_eq_true rfl) rfl ?_
            obtain ⟨z648992, hz648992⟩ : ∃ z : Int32, z = g648983 + Int32.ofInt 1 := ⟨_, rfl⟩
            have ez648992 : z648992.toInt = g648983.toInt + 1 := gI_inc hz648992 (by decide) bg648983' (by decide) (by decide)
            have bz648992 : gB z648992 2 10 := ⟨by omega, by omega⟩
            refine G_iinc (L' := [(3, .int z648992), (2, .int z648991), (1, .int 1), (0, .int p648930)]) z648992 1 dr_cJ6_stringSize_0f7a4_36 rfl hz648992.symm (Nat.le_of_ble_eq_true rfl) rfl ?_
            refine G_goto 16 dr_cJ6_stringSize_0f7a4_39 (by decide +kernel) ?_
            exact ih16_648985 z648992 z648991 (gB_w bz648992 (by decide) (by decide)) (ssI_st x648985 (by omega) (by omega) hz648991) (by have qa0 : Int32.toInt 1 = 1 := (by decide); omega)
          · have r648993 : g648984.toInt < p648930.toInt := gC_nle hc648989
            have bg648984' : gB g648984 (-2147483648) (-2) := ⟨by omega, by omega⟩
            have bp648930'' : gB p648930 (-2147483647) (-1) := ⟨by omega, by omega⟩
            refine G_iload_n 0 dr_cJ6_stringSize_0f7a4_27 rfl ?_
            refine G_iload_n 2 dr_cJ6_stringSize_0f7a4_28 rfl ?_
            refine G_iadd dr_cJ6_stringSize_0f7a4_29 (G_nam fun z648994 hz648994 => ?_)
            have ez648994 : z648994.toInt = g648983.toInt + 1 := by rw [gI_add hz648994 bg648983' (gBl (show Int32.toInt 1 = 1 by decide)) (by decide) (by decide), show Int32.toInt 1 = 1 from by decide]
            have bz648994 : gB z648994 2 10 := gB_add (gI_add hz648994 bg648983' (gBl (show Int32.toInt 1 = 1 by decide)) (by decide) (by decide)) bg648983' (gBl (show Int32.toInt 1 = 1 by decide)) (by decide) (by decide)
            exact G_iretA dr_cJ6_stringSize_0f7a4_30 rfl (Nat.le_of_ble_eq_true rfl) (Nat.le_of_ble_eq_true rfl) ⟨z648994, rfl, rfl, (Nat.le_of_ble_eq_true rfl), (Nat.le_of_ble_eq_true rfl), (gB_w bz648994 (by decide) (by decide)), (by have q10 : Int32.toInt 10 = 10 := (by decide); have q11 : Int32.toInt 11 = 11 := (by decide); first | exact dgS_p (x := -p648930.toInt) (by omega) rfl (dgB_up (ssI_r x648985 (by omega) (fun _ => by omega)) (by omega) (by omega)) | exact dgS_n (by omega) (by omega) (ssI_r x648985 (by omega) (fun _ => by omega)))⟩
    exact hlp16_648985 (((11 : Int) - 1).toNat + 1) 1 (-10) (gB_w (gBl (show Int32.toInt 1 = 1 by decide)) (by decide) (by decide)) ssI_0 (Nat.lt_succ_self _)
  · have r648995 : 0 ≤ p648930.toInt := gj_nlt hc648932 (show Int32.toInt 0 = 0 by decide)
    have bp648930' : gB p648930 0 2147483647 := ⟨by omega, by omega⟩
    refine G_iconst 0 dr_cJ6_stringSize_0f7a4_6 (by decide +kernel) ?_
    refine G_istore_n (L' := [(1, .int 0), (0, .int p648930)]) dr_cJ6_stringSize_0f7a4_7 (Nat.le_of_ble_eq_true rfl) rfl ?_
    refine G_iload_n 1 dr_cJ6_stringSize_0f7a4_8 rfl ?_
    refine G_ineg dr_cJ6_stringSize_0f7a4_9 (G_nam fun z648996 hz648996 => ?_)
    have ez648996 : z648996.toInt = -p648930.toInt := gI_neg hz648996 bp648930' (by decide)
    have bz648996 : gB z648996 (-2147483647) 0 := ⟨by omega, by omega⟩
    refine G_istore_n (L' := [(0, .int z648996), (1, .int 0)]) dr_cJ6_stringSize_0f7a4_10 (Nat.le_of_ble_eq_true rfl) rfl ?_
    refine G_bipush (-10) dr_cJ6_stringSize_0f7a4_11 (by decide +kernel) ?_
    refine G_istore_n (L' := [(2, .int (-10)), (0, .int z648996), (1, .int 0)]) dr_cJ6_stringSize_0f7a4_13 (Nat.le_of_ble_eq_true rfl) rfl ?_
    refine G_iconst 1 dr_cJ6_stringSize_0f7a4_14 (by decide +kernel) ?_
    refine G_istore_n (L' := [(3, .int 1), (2, .int (-10)), (0, .int z648996), (1, .int 0)]) dr_cJ6_stringSize_0f7a4_15 (Nat.le_of_ble_eq_true rfl) rfl ?_
    have hlp16_649048 : ∀ (n16_649048 : Nat) (g649046 : Int32) (g649047 : Int32), gB g649046 1 10 → ssI g649046 g649047 → ((11 : Int) - g649046.toInt).toNat < n16_649048 → G (gV D I) l (gRm 0 0 0 0) (gMA (gV D I) (pp_648931_Integer_stringSize D I P648928 F648929 p648930) gNA 0 0) ky_648931_Integer_stringSize 16 [(3, .int g649046), (2, .int g649047), (0, .int z648996), (1, .int 0)] [] (va_pl P648928 F648929) 0 0 := by
      intro n16_649048
      induction n16_649048 with
      | zero => intro g649046 g649047 bg649046 x649048 hm16_649048; exact absurd hm16_649048 (Nat.not_lt_zero _)
      | succ n16_649048 ih16_649048 =>
        intro g649046 g649047 bg649046 x649048 hm16_649048
        have bg649047 := gB_any g649047
        refine G_iload_n 0 dr_cJ6_stringSize_0f7a4_16 rfl ?_
        refine G_bipush 10 dr_cJ6_stringSize_0f7a4_17 (by decide +kernel) ?_
        refine G_icmp_ge 42 dr_cJ6_stringSize_0f7a4_19 (by decide +kernel) (fun hc649049 => ?_) (fun hc649049 => ?_)
        · have r649050 : 10 ≤ g649046.toInt := gj_leL hc649049 (show Int32.toInt 10 = 10 by decide)
          have bg649046' : gB g649046 10 10 := ⟨by omega, by omega⟩
          refine G_bipush 10 dr_cJ6_stringSize_0f7a4_42 (by decide +kernel) ?_
          refine G_iload_n 3 dr_cJ6_stringSize_0f7a4_44 rfl ?_
          refine G_iadd dr_cJ6_stringSize_0f7a4_45 ?_
          refine G_eqi (y := 10) (by decide) ?_
          exact G_iretA dr_cJ6_stringSize_0f7a4_46 rfl (Nat.le_of_ble_eq_true rfl) (Nat.le_of_ble_eq_true rfl) ⟨10, rfl, rfl, (Nat.le_of_ble_eq_true rfl), (Nat.le_of_ble_eq_true rfl), (gB_w (gBl (show Int32.toInt 10 = 10 by decide)) (by decide) (by decide)), (by have q10 : Int32.toInt 10 = 10 := (by decide); have q11 : Int32.toInt 11 = 11 := (by decide); first | exact dgS_p (x := -p648930.toInt) (by omega) rfl (dgB_up (ssI_r x649048 (by omega) (fun _ => by omega)) (by omega) (by omega)) | exact dgS_n (by omega) (by omega) (ssI_r x649048 (by omega) (fun _ => by omega)))⟩
        · have r649051 : g649046.toInt < 10 := gj_nleL hc649049 (show Int32.toInt 10 = 10 by decide)
          have bg649046' : gB g649046 1 9 := ⟨by omega, by omega⟩
          refine G_iload_n 2 dr_cJ6_stringSize_0f7a4_22 rfl ?_
          refine G_iload_n 1 dr_cJ6_stringSize_0f7a4_23 rfl ?_
          refine G_icmp_le 31 dr_cJ6_stringSize_0f7a4_24 (by decide +kernel) (fun hc649052 => ?_) (fun hc649052 => ?_)
          · have r649053 : z648996.toInt ≤ g649047.toInt := gC_le hc649052
            have bg649047' : gB g649047 (-2147483647) 2147483647 := ⟨by omega, by omega⟩
            refine G_bipush 10 dr_cJ6_stringSize_0f7a4_31 (by decide +kernel) ?_
            refine G_iload_n 1 dr_cJ6_stringSize_0f7a4_33 rfl ?_
            refine G_imul dr_cJ6_stringSize_0f7a4_34 (G_nam fun z649054 hz649054 => ?_)
            have bz649054 : gB z649054 (-2147483648) 2147483647 := gB_any z649054
            refine G_istore_n (L' := [(2, .int z649054), (3, .int g649046), (0, .int z648996), (1, .int 0)]) dr_cJ6_stringSize_0f7a4_35 (Nat.le_of_ble_eq_true rfl) rfl ?_
            obtain ⟨z649055, hz649055⟩ : ∃ z : Int32, z = g649046 + Int32.ofInt 1 := ⟨_, rfl⟩
            have ez649055 : z649055.toInt = g649046.toInt + 1 := gI_inc hz649055 (by decide) bg649046' (by decide) (by decide)
            have bz649055 : gB z649055 2 10 := ⟨by omega, by omega⟩
            refine G_iinc (L' := [(3, .int z649055), (2, .int z649054), (0, .int z648996), (1, .int 0)]) z649055 1 dr_cJ6_stringSize_0f7a4_36 rfl hz649055.symm (Nat.le_of_ble_eq_true rfl) rfl ?_
            refine G_goto 16 dr_cJ6_stringSize_0f7a4_39 (by decide +kernel) ?_
            exact ih16_649048 z649055 z649054 (gB_w bz649055 (by decide) (by decide)) (ssI_st x649048 (by omega) (by omega) hz649054) (by have qa0 : Int32.toInt 0 = 0 := (by decide); omega)
          · have r649056 : g649047.toInt < z648996.toInt := gC_nle hc649052
            have bg649047' : gB g649047 (-2147483648) (-1) := ⟨by omega, by omega⟩
            refine G_iload_n 0 dr_cJ6_stringSize_0f7a4_27 rfl ?_
            refine G_iload_n 3 dr_cJ6_stringSize_0f7a4_28 rfl ?_
            refine G_iadd dr_cJ6_stringSize_0f7a4_29 (G_nam fun z649057 hz649057 => ?_)
            have ez649057 : z649057.toInt = g649046.toInt + 0 := by rw [gI_add hz649057 bg649046' (gBl (show Int32.toInt 0 = 0 by decide)) (by decide) (by decide), show Int32.toInt 0 = 0 from by decide]
            have bz649057 : gB z649057 1 9 := gB_add (gI_add hz649057 bg649046' (gBl (show Int32.toInt 0 = 0 by decide)) (by decide) (by decide)) bg649046' (gBl (show Int32.toInt 0 = 0 by decide)) (by decide) (by decide)
            exact G_iretA dr_cJ6_stringSize_0f7a4_30 rfl (Nat.le_of_ble_eq_true rfl) (Nat.le_of_ble_eq_true rfl) ⟨z649057, rfl, rfl, (Nat.le_of_ble_eq_true rfl), (Nat.le_of_ble_eq_true rfl), (gB_w bz649057 (by decide) (by decide)), (by have q10 : Int32.toInt 10 = 10 := (by decide); have q11 : Int32.toInt 11 = 11 := (by decide); first | exact dgS_p (x := -p648930.toInt) (by omega) rfl (dgB_up (ssI_r x649048 (by omega) (fun _ => by omega)) (by omega) (by omega)) | exact dgS_n (by omega) (by omega) (ssI_r x649048 (by omega) (fun _ => by omega)))⟩
    exact hlp16_649048 (((11 : Int) - 1).toNat + 1) 1 (-10) (gB_w (gBl (show Int32.toInt 1 = 1 by decide)) (by decide) (by decide)) ssI_0 (Nat.lt_succ_self _)
abbrev ky_649108_Integer_getChars : gKey := (cJ6_getChars_ba4f3, 7, "java/lang/Integer", (some FieldType.int), [], "getChars", fun _ _ => True)
def pp_649108_Integer_getChars (D : va_G) (I : FieldType → ClassId) (P649098 : List Nat) (F649099 : Nat → va_E) (q649100 : Nat) (p649101 : Int32) (p649102 : Int32) (f649103 : Nat → Int32) (n649104 : Nat) : Option Value → va_W → Nat → Nat → Prop := fun r w dc ds => ∃ (F649500 : Nat → va_E) (o649498 : Int32) (f649497 : Nat → Int32), r = some (.int o649498) ∧ w = va_pl P649098 F649500 ∧ rFr [q649100] P649098 F649099 F649500 ∧ F649500 q649100 = .inl (I .byte, n649104, .inl f649497) ∧ dc ≤ 0 ∧ ds ≤ 0 ∧ gB o649498 0 16777215 ∧ gF f649497 (-128) 127
set_option maxRecDepth 100000 in
set_option maxHeartbeats 4000000 in
theorem cp_649108_Integer_getChars (l : Launch) (hl0 : l.stackTraces = false) (D : va_G) (I : FieldType → ClassId) (P649098 : List Nat) (F649099 : Nat → va_E) (q649100 : Nat) (p649101 : Int32) (p649102 : Int32) (f649103 : Nat → Int32) (n649104 : Nat) (hmq649100 : q649100 ∈ P649098) (heq649100 : F649099 q649100 = .inl (I .byte, n649104, .inl f649103)) (bp649102 : gB p649102 0 16777216) (bf649103 : gF f649103 (-128) 127) (x649105 : p649102.toInt ≤ (n649104 : Int)) (x649106 : dgS p649101.toInt p649102.toInt) (x649107 : ((n649104 : Int) ≤ 16777216)) : CtA (gV D I) l yJ6_getChars_ba4f3 cJ6_getChars_ba4f3 7 (some FieldType.int) 0 0 0 0 [.int p649101, .int p649102, .ref q649100] (va_pl P649098 F649099) (pp_649108_Integer_getChars D I P649098 F649099 q649100 p649101 p649102 f649103 n649104) gNA := by
  refine CtA_ofF hl0 (by decide +kernel) (Nat.le_of_ble_eq_true rfl) ?_
  have bp649101 := gB_any p649101
  refine G_iload_n 1 dr_cJ6_getChars_ba4f3_0 rfl ?_
  refine G_istore (L' := [(5, .int p649102), (0, .int p649101), (1, .int p649102), (2, .ref q649100)]) dr_cJ6_getChars_ba4f3_1 (Nat.le_of_ble_eq_true rfl) rfl ?_
  refine G_iload_n 1 dr_cJ6_getChars_ba4f3_3 rfl ?_
  refine G_if_ge 11 dr_cJ6_getChars_ba4f3_4 (by decide +kernel) (fun hc649109 => ?_) (fun hc649109 => ?_)
  · have r649110 : 0 ≤ p649101.toInt := gj_leL hc649109 (show Int32.toInt 0 = 0 by decide)
    have bp649101' : gB p649101 0 2147483647 := ⟨by omega, by omega⟩
    refine G_iconst 0 dr_cJ6_getChars_ba4f3_11 (by decide +kernel) ?_
    refine G_istore (L' := [(6, .int 0), (5, .int p649102), (0, .int p649101), (1, .int p649102), (2, .ref q649100)]) dr_cJ6_getChars_ba4f3_12 (Nat.le_of_ble_eq_true rfl) rfl ?_
    refine G_iload 0 dr_cJ6_getChars_ba4f3_14 rfl ?_
    refine G_if_ne 22 dr_cJ6_getChars_ba4f3_16 (by decide +kernel) (fun hc => absurd hc (by decide)) (fun _ => ?_)
    refine G_iload_n 2 dr_cJ6_getChars_ba4f3_19 rfl ?_
    refine G_ineg dr_cJ6_getChars_ba4f3_20 (G_nam fun z649111 hz649111 => ?_)
    have ez649111 : z649111.toInt = -p649101.toInt := gI_neg hz649111 bp649101' (by decide)
    have bz649111 : gB z649111 (-2147483647) 0 := ⟨by omega, by omega⟩
    refine G_istore_n (L' := [(0, .int z649111), (6, .int 0), (5, .int p649102), (1, .int p649102), (2, .ref q649100)]) dr_cJ6_getChars_ba4f3_21 (Nat.le_of_ble_eq_true rfl) rfl ?_
    have hlp22_649228 : ∀ (n22_649228 : Nat) (F649223 : Nat → va_E) (g649220 : Int32) (g649221 : Int32) (f649222 : Nat → Int32), gB g649220 (-2147483647) 0 → gB g649221 0 16777216 → gF f649222 (-128) 127 → rFr [q649100] P649098 F649099 F649223 → F649223 q649100 = .inl (I .byte, n649104, .inl f649222) → g649220.toInt ≤ 0 → dgB g649220.toInt (g649221.toInt - 0) → g649221.toInt ≤ p649102.toInt → (-g649220.toInt).toNat < n22_649228 → G (gV D I) l (gRm 0 0 0 0) (gMA (gV D I) (pp_649108_Integer_getChars D I P649098 F649099 q649100 p649101 p649102 f649103 n649104) gNA 0 0) ky_649108_Integer_getChars 22 [(0, .int g649220), (6, .int 0), (5, .int g649221), (1, .int p649102), (2, .ref q649100)] [] (va_pl P649098 F649223) 0 0 := by
      intro n22_649228
      induction n22_649228 with
      | zero => intro F649223 g649220 g649221 f649222 bg649220 bg649221 bf649222 hfr649225 he649224 x649226 x649227 x649228 hm22_649228; exact absurd hm22_649228 (Nat.not_lt_zero _)
      | succ n22_649228 ih22_649228 =>
        intro F649223 g649220 g649221 f649222 bg649220 bg649221 bf649222 hfr649225 he649224 x649226 x649227 x649228 hm22_649228
        refine G_iload_n 0 dr_cJ6_getChars_ba4f3_22 rfl ?_
        refine G_bipush (-100) dr_cJ6_getChars_ba4f3_23 (by decide +kernel) ?_
        refine G_icmp_gt 72 dr_cJ6_getChars_ba4f3_25 (by decide +kernel) (fun hc649229 => ?_) (fun hc649229 => ?_)
        · have r649230 : (-100) < g649220.toInt := gj_ltL hc649229 (show Int32.toInt (-100) = (-100) by decide)
          have bg649220' : gB g649220 (-99) 0 := ⟨by omega, by omega⟩
          have x649231 : (1 : Int) ≤ (g649221.toInt - 0) := dgB_1 x649227
          refine G_aload_n 4 dr_cJ6_getChars_ba4f3_72 rfl ?_
          have bg649221' : gB g649221 1 16777216 := ⟨by omega, by omega⟩
          obtain ⟨z649232, hz649232⟩ : ∃ z : Int32, z = g649221 + Int32.ofInt (-1) := ⟨_, rfl⟩
          have ez649232 : z649232.toInt = g649221.toInt + (-1) := gI_inc hz649232 (by decide) bg649221' (by decide) (by decide)
          have bz649232 : gB z649232 0 16777215 := ⟨by omega, by omega⟩
          refine G_iinc (L' := [(5, .int z649232), (0, .int g649220), (6, .int 0), (1, .int p649102), (2, .ref q649100)]) z649232 2 dr_cJ6_getChars_ba4f3_73 rfl hz649232.symm (Nat.le_of_ble_eq_true rfl) rfl ?_
          refine G_iload 0 dr_cJ6_getChars_ba4f3_76 rfl ?_
          refine G_gets dr_cJ6_getChars_ba4f3_78 wr_8_118 gr_on (fun x649234 hx649233 => ?_)
          subst hx649233
          refine G_iload_n 1 dr_cJ6_getChars_ba4f3_81 rfl ?_
          refine G_ineg dr_cJ6_getChars_ba4f3_82 (G_nam fun z649235 hz649235 => ?_)
          have ez649235 : z649235.toInt = -g649220.toInt := gI_neg hz649235 bg649220' (by decide)
          have bz649235 : gB z649235 0 99 := ⟨by omega, by omega⟩
          refine G_kbald (f := dg_O) dr_cJ6_getChars_ba4f3_83 gr_ont (gB_inr (by omega) (by omega)) (G_nam fun z649236 hz649236 => ?_)
          have bz649236 : gB z649236 (-2147483648) 2147483647 := gB_any z649236
          refine Gp_bast 1 hmq649100 he649224 dr_cJ6_getChars_ba4f3_84 rfl (gB_inr (by omega) (by omega)) (fun F649237 e649238 n649239 => ?_)
          obtain ⟨f649240, hf649240⟩ : ∃ z, z = upd f649222 z649232.toNatClampNeg (vp_nar .byte z649236) := ⟨_, rfl⟩
          rw [← hf649240] at e649238
          have he649241 : F649237 q649100 = .inl (I .byte, n649104, .inl f649240) := e649238
          have hfr649242 : rFr [q649100] P649098 F649099 F649237 := rFr_put' List.mem_cons_self hfr649225 n649239
          have bf649240 : gF f649240 (-128) 127 := gF_upd hf649240 bf649222 gB_byte
          refine G_iload_n 1 dr_cJ6_getChars_ba4f3_85 rfl ?_
          refine G_bipush (-9) dr_cJ6_getChars_ba4f3_86 (by decide +kernel) ?_
          refine G_icmp_ge 104 dr_cJ6_getChars_ba4f3_88 (by decide +kernel) (fun hc649243 => ?_) (fun hc649243 => ?_)
          · have r649244 : (-9) ≤ g649220.toInt := gj_leL hc649243 (show Int32.toInt (-9) = (-9) by decide)
            have bg649220'' : gB g649220 (-9) 0 := ⟨by omega, by omega⟩
            refine G_iload 2 dr_cJ6_getChars_ba4f3_104 rfl ?_
            refine G_if_eq 118 dr_cJ6_getChars_ba4f3_106 (by decide +kernel) (fun _ => ?_) (fun hc => absurd hc (by decide))
            refine G_iload 0 dr_cJ6_getChars_ba4f3_118 rfl ?_
            exact G_iretA dr_cJ6_getChars_ba4f3_120 rfl (Nat.le_of_ble_eq_true rfl) (Nat.le_of_ble_eq_true rfl) ⟨F649237, z649232, f649240, rfl, rfl, hfr649242, he649241, (Nat.le_of_ble_eq_true rfl), (Nat.le_of_ble_eq_true rfl), bz649232, bf649240⟩
          · have r649245 : g649220.toInt < (-9) := gj_nleL hc649243 (show Int32.toInt (-9) = (-9) by decide)
            have bg649220'' : gB g649220 (-99) (-10) := ⟨by omega, by omega⟩
            have x649246 : (2 : Int) ≤ (g649221.toInt - 0) := dgB_2 x649227 (by omega)
            refine G_aload_n 4 dr_cJ6_getChars_ba4f3_91 rfl ?_
            have bz649232' : gB z649232 1 16777215 := ⟨by omega, by omega⟩
            obtain ⟨z649247, hz649247⟩ : ∃ z : Int32, z = z649232 + Int32.ofInt (-1) := ⟨_, rfl⟩
            have ez649247 : z649247.toInt = z649232.toInt + (-1) := gI_inc hz649247 (by decide) bz649232' (by decide) (by decide)
            have bz649247 : gB z649247 0 16777214 := ⟨by omega, by omega⟩
            refine G_iinc (L' := [(5, .int z649247), (0, .int g649220), (6, .int 0), (1, .int p649102), (2, .ref q649100)]) z649247 0 dr_cJ6_getChars_ba4f3_92 rfl hz649247.symm (Nat.le_of_ble_eq_true rfl) rfl ?_
            refine G_iload 0 dr_cJ6_getChars_ba4f3_95 rfl ?_
            refine G_gets dr_cJ6_getChars_ba4f3_97 wr_8_120 gr_te (fun x649249 hx649248 => ?_)
            subst hx649248
            refine G_iload_n 1 dr_cJ6_getChars_ba4f3_100 rfl ?_
            refine G_ineg dr_cJ6_getChars_ba4f3_101 (G_nam fun z649250 hz649250 => ?_)
            have ez649250 : z649250.toInt = -g649220.toInt := gI_neg hz649250 bg649220'' (by decide)
            have bz649250 : gB z649250 10 99 := ⟨by omega, by omega⟩
            refine G_kbald (f := dg_T) dr_cJ6_getChars_ba4f3_102 gr_tet (gB_inr (by omega) (by omega)) (G_nam fun z649251 hz649251 => ?_)
            have bz649251 : gB z649251 (-2147483648) 2147483647 := gB_any z649251
            refine Gp_bast 1 hmq649100 he649241 dr_cJ6_getChars_ba4f3_103 rfl (gB_inr (by omega) (by omega)) (fun F649252 e649253 n649254 => ?_)
            obtain ⟨f649255, hf649255⟩ : ∃ z, z = upd f649240 z649247.toNatClampNeg (vp_nar .byte z649251) := ⟨_, rfl⟩
            rw [← hf649255] at e649253
            have he649256 : F649252 q649100 = .inl (I .byte, n649104, .inl f649255) := e649253
            have hfr649257 : rFr [q649100] P649098 F649099 F649252 := rFr_put' List.mem_cons_self hfr649242 n649254
            have bf649255 : gF f649255 (-128) 127 := gF_upd hf649255 bf649240 gB_byte
            refine G_iload 2 dr_cJ6_getChars_ba4f3_104 rfl ?_
            refine G_if_eq 118 dr_cJ6_getChars_ba4f3_106 (by decide +kernel) (fun _ => ?_) (fun hc => absurd hc (by decide))
            refine G_iload 0 dr_cJ6_getChars_ba4f3_118 rfl ?_
            exact G_iretA dr_cJ6_getChars_ba4f3_120 rfl (Nat.le_of_ble_eq_true rfl) (Nat.le_of_ble_eq_true rfl) ⟨F649252, z649247, f649255, rfl, rfl, hfr649257, he649256, (Nat.le_of_ble_eq_true rfl), (Nat.le_of_ble_eq_true rfl), (gB_w bz649247 (by decide) (by decide)), bf649255⟩
        · have r649258 : g649220.toInt ≤ (-100) := gj_nltL hc649229 (show Int32.toInt (-100) = (-100) by decide)
          have bg649220' : gB g649220 (-2147483647) (-100) := ⟨by omega, by omega⟩
          have x649259 : (3 : Int) ≤ (g649221.toInt - 0) := dgB_3 x649227 (by omega)
          refine G_iload_n 0 dr_cJ6_getChars_ba4f3_28 rfl ?_
          refine G_bipush 100 dr_cJ6_getChars_ba4f3_29 (by decide +kernel) ?_
          refine G_idiv dr_cJ6_getChars_ba4f3_31 (by decide) (G_nam fun z649260 hz649260 => ?_)
          have ez649260 : z649260.toInt = -((-g649220.toInt) / 100) := gI_divn hz649260 bg649220' (by decide) (by decide) (by decide)
          have bz649260 : gB z649260 (-21474836) (-1) := ⟨by omega, by omega⟩
          refine G_istore_n (L' := [(3, .int z649260), (0, .int g649220), (6, .int 0), (5, .int g649221), (1, .int p649102), (2, .ref q649100)]) dr_cJ6_getChars_ba4f3_32 (Nat.le_of_ble_eq_true rfl) rfl ?_
          refine G_iload_n 0 dr_cJ6_getChars_ba4f3_33 rfl ?_
          refine G_bipush 100 dr_cJ6_getChars_ba4f3_34 (by decide +kernel) ?_
          refine G_imul dr_cJ6_getChars_ba4f3_36 (G_nam fun z649261 hz649261 => ?_)
          have ez649261 : z649261.toInt = z649260.toInt * 100 := gI_mulK hz649261 (by decide) (by omega) (by omega)
          have bz649261 : gB z649261 (-2147483600) (-100) := ⟨by omega, by omega⟩
          refine G_iload_n 1 dr_cJ6_getChars_ba4f3_37 rfl ?_
          refine G_isub dr_cJ6_getChars_ba4f3_38 (G_nam fun z649262 hz649262 => ?_)
          have ez649262 : z649262.toInt = z649261.toInt - g649220.toInt := by rw [gI_sub hz649262 bz649261 bg649220' (by decide) (by decide)]
          have bz649262 : gB z649262 (-2147483500) 2147483547 := gB_sub (gI_sub hz649262 bz649261 bg649220' (by decide) (by decide)) bz649261 bg649220' (by decide) (by decide)
          refine G_istore (L' := [(4, .int z649262), (3, .int z649260), (0, .int g649220), (6, .int 0), (5, .int g649221), (1, .int p649102), (2, .ref q649100)]) dr_cJ6_getChars_ba4f3_39 (Nat.le_of_ble_eq_true rfl) rfl ?_
          refine G_iload_n 1 dr_cJ6_getChars_ba4f3_41 rfl ?_
          refine G_istore_n (L' := [(0, .int z649260), (4, .int z649262), (3, .int z649260), (6, .int 0), (5, .int g649221), (1, .int p649102), (2, .ref q649100)]) dr_cJ6_getChars_ba4f3_42 (Nat.le_of_ble_eq_true rfl) rfl ?_
          refine G_aload_n 6 dr_cJ6_getChars_ba4f3_43 rfl ?_
          have bg649221' : gB g649221 2 16777216 := ⟨by omega, by omega⟩
          obtain ⟨z649263, hz649263⟩ : ∃ z : Int32, z = g649221 + Int32.ofInt (-1) := ⟨_, rfl⟩
          have ez649263 : z649263.toInt = g649221.toInt + (-1) := gI_inc hz649263 (by decide) bg649221' (by decide) (by decide)
          have bz649263 : gB z649263 1 16777215 := ⟨by omega, by omega⟩
          refine G_iinc (L' := [(5, .int z649263), (0, .int z649260), (4, .int z649262), (3, .int z649260), (6, .int 0), (1, .int p649102), (2, .ref q649100)]) z649263 4 dr_cJ6_getChars_ba4f3_44 rfl hz649263.symm (Nat.le_of_ble_eq_true rfl) rfl ?_
          refine G_iload 0 dr_cJ6_getChars_ba4f3_47 rfl ?_
          refine G_gets dr_cJ6_getChars_ba4f3_49 wr_8_118 gr_on (fun x649265 hx649264 => ?_)
          subst hx649264
          refine G_iload 2 dr_cJ6_getChars_ba4f3_52 rfl ?_
          refine G_kbald (f := dg_O) dr_cJ6_getChars_ba4f3_54 gr_ont (gB_inr (by omega) (by omega)) (G_nam fun z649266 hz649266 => ?_)
          have bz649266 : gB z649266 (-2147483648) 2147483647 := gB_any z649266
          refine Gp_bast 1 hmq649100 he649224 dr_cJ6_getChars_ba4f3_55 rfl (gB_inr (by omega) (by omega)) (fun F649267 e649268 n649269 => ?_)
          obtain ⟨f649270, hf649270⟩ : ∃ z, z = upd f649222 z649263.toNatClampNeg (vp_nar .byte z649266) := ⟨_, rfl⟩
          rw [← hf649270] at e649268
          have he649271 : F649267 q649100 = .inl (I .byte, n649104, .inl f649270) := e649268
          have hfr649272 : rFr [q649100] P649098 F649099 F649267 := rFr_put' List.mem_cons_self hfr649225 n649269
          have bf649270 : gF f649270 (-128) 127 := gF_upd hf649270 bf649222 gB_byte
          refine G_aload_n 6 dr_cJ6_getChars_ba4f3_56 rfl ?_
          obtain ⟨z649273, hz649273⟩ : ∃ z : Int32, z = z649263 + Int32.ofInt (-1) := ⟨_, rfl⟩
          have ez649273 : z649273.toInt = z649263.toInt + (-1) := gI_inc hz649273 (by decide) bz649263 (by decide) (by decide)
          have bz649273 : gB z649273 0 16777214 := ⟨by omega, by omega⟩
          refine G_iinc (L' := [(5, .int z649273), (0, .int z649260), (4, .int z649262), (3, .int z649260), (6, .int 0), (1, .int p649102), (2, .ref q649100)]) z649273 0 dr_cJ6_getChars_ba4f3_57 rfl hz649273.symm (Nat.le_of_ble_eq_true rfl) rfl ?_
          refine G_iload 0 dr_cJ6_getChars_ba4f3_60 rfl ?_
          refine G_gets dr_cJ6_getChars_ba4f3_62 wr_8_120 gr_te (fun x649275 hx649274 => ?_)
          subst hx649274
          refine G_iload 2 dr_cJ6_getChars_ba4f3_65 rfl ?_
          refine G_kbald (f := dg_T) dr_cJ6_getChars_ba4f3_67 gr_tet (gB_inr (by omega) (by omega)) (G_nam fun z649276 hz649276 => ?_)
          have bz649276 : gB z649276 (-2147483648) 2147483647 := gB_any z649276
          refine Gp_bast 1 hmq649100 he649271 dr_cJ6_getChars_ba4f3_68 rfl (gB_inr (by omega) (by omega)) (fun F649277 e649278 n649279 => ?_)
          obtain ⟨f649280, hf649280⟩ : ∃ z, z = upd f649270 z649273.toNatClampNeg (vp_nar .byte z649276) := ⟨_, rfl⟩
          rw [← hf649280] at e649278
          have he649281 : F649277 q649100 = .inl (I .byte, n649104, .inl f649280) := e649278
          have hfr649282 : rFr [q649100] P649098 F649099 F649277 := rFr_put' List.mem_cons_self hfr649272 n649279
          have bf649280 : gF f649280 (-128) 127 := gF_upd hf649280 bf649270 gB_byte
          refine G_goto 22 dr_cJ6_getChars_ba4f3_69 (by decide +kernel) ?_
          refine G_lv (L' := [(0, .int z649260), (6, .int 0), (5, .int z649273), (1, .int p649102), (2, .ref q649100)]) [1, 4, 0, 5, 6] rfl ?_
          exact ih22_649228 F649277 z649260 z649273 f649280 (gB_w bz649260 (by decide) (by decide)) (gB_w bz649273 (by decide) (by decide)) bf649280 hfr649282 he649281 (by have qa0 : Int32.toInt 0 = 0 := (by decide); omega) (by have q10 : Int32.toInt 10 = 10 := (by decide); have q11 : Int32.toInt 11 = 11 := (by decide); first | exact dgB_up (dgS_ip x649106 (by omega) (by omega)) (by omega) (by omega) | exact dgB_up (dgS_in x649106 (by omega)) (by omega) (by omega) | exact dgB_up x649227 (by omega) (by omega) | exact dgB_up (dgB_st x649227 (by omega) (by omega) (by omega)) (by omega) (by omega)) (by have qa0 : Int32.toInt 0 = 0 := (by decide); omega) (by have qa0 : Int32.toInt 0 = 0 := (by decide); omega)
    exact hlp22_649228 ((-z649111.toInt).toNat + 1) F649099 z649111 p649102 f649103 bz649111 bp649102 bf649103 (rFr_v (rFr_rf (W := []) (P := P649098) (F := F649099)) (fun b hn => nm_n)) heq649100 (by have qa0 : Int32.toInt 0 = 0 := (by decide); omega) (by have q10 : Int32.toInt 10 = 10 := (by decide); have q11 : Int32.toInt 11 = 11 := (by decide); first | exact dgB_up (dgS_ip x649106 (by omega) (by omega)) (by omega) (by omega) | exact dgB_up (dgS_in x649106 (by omega)) (by omega) (by omega)) (by have qa0 : Int32.toInt 0 = 0 := (by decide); omega) (Nat.lt_succ_self _)
  · have r649283 : p649101.toInt < 0 := gj_nleL hc649109 (show Int32.toInt 0 = 0 by decide)
    have bp649101' : gB p649101 (-2147483648) (-1) := ⟨by omega, by omega⟩
    refine G_iconst 1 dr_cJ6_getChars_ba4f3_7 (by decide +kernel) ?_
    refine G_goto 12 dr_cJ6_getChars_ba4f3_8 (by decide +kernel) ?_
    refine G_istore (L' := [(6, .int 1), (5, .int p649102), (0, .int p649101), (1, .int p649102), (2, .ref q649100)]) dr_cJ6_getChars_ba4f3_12 (Nat.le_of_ble_eq_true rfl) rfl ?_
    refine G_iload 0 dr_cJ6_getChars_ba4f3_14 rfl ?_
    refine G_if_ne 22 dr_cJ6_getChars_ba4f3_16 (by decide +kernel) (fun _ => ?_) (fun hc => absurd hc (by decide))
    have hlp22_649428 : ∀ (n22_649428 : Nat) (F649423 : Nat → va_E) (g649420 : Int32) (g649421 : Int32) (f649422 : Nat → Int32), gB g649420 0 16777216 → gB g649421 (-2147483648) (-1) → gF f649422 (-128) 127 → rFr [q649100] P649098 F649099 F649423 → F649423 q649100 = .inl (I .byte, n649104, .inl f649422) → g649421.toInt ≤ 0 → dgB g649421.toInt (g649420.toInt - 1) → g649420.toInt ≤ p649102.toInt → (-g649421.toInt).toNat < n22_649428 → G (gV D I) l (gRm 0 0 0 0) (gMA (gV D I) (pp_649108_Integer_getChars D I P649098 F649099 q649100 p649101 p649102 f649103 n649104) gNA 0 0) ky_649108_Integer_getChars 22 [(6, .int 1), (5, .int g649420), (0, .int g649421), (1, .int p649102), (2, .ref q649100)] [] (va_pl P649098 F649423) 0 0 := by
      intro n22_649428
      induction n22_649428 with
      | zero => intro F649423 g649420 g649421 f649422 bg649420 bg649421 bf649422 hfr649425 he649424 x649426 x649427 x649428 hm22_649428; exact absurd hm22_649428 (Nat.not_lt_zero _)
      | succ n22_649428 ih22_649428 =>
        intro F649423 g649420 g649421 f649422 bg649420 bg649421 bf649422 hfr649425 he649424 x649426 x649427 x649428 hm22_649428
        refine G_iload_n 2 dr_cJ6_getChars_ba4f3_22 rfl ?_
        refine G_bipush (-100) dr_cJ6_getChars_ba4f3_23 (by decide +kernel) ?_
        refine G_icmp_gt 72 dr_cJ6_getChars_ba4f3_25 (by decide +kernel) (fun hc649429 => ?_) (fun hc649429 => ?_)
        · have r649430 : (-100) < g649421.toInt := gj_ltL hc649429 (show Int32.toInt (-100) = (-100) by decide)
          have bg649421' : gB g649421 (-99) (-1) := ⟨by omega, by omega⟩
          have x649431 : (1 : Int) ≤ (g649420.toInt - 1) := dgB_1 x649427
          refine G_aload_n 4 dr_cJ6_getChars_ba4f3_72 rfl ?_
          have bg649420' : gB g649420 1 16777216 := ⟨by omega, by omega⟩
          obtain ⟨z649432, hz649432⟩ : ∃ z : Int32, z = g649420 + Int32.ofInt (-1) := ⟨_, rfl⟩
          have ez649432 : z649432.toInt = g649420.toInt + (-1) := gI_inc hz649432 (by decide) bg649420' (by decide) (by decide)
          have bz649432 : gB z649432 0 16777215 := ⟨by omega, by omega⟩
          refine G_iinc (L' := [(5, .int z649432), (6, .int 1), (0, .int g649421), (1, .int p649102), (2, .ref q649100)]) z649432 1 dr_cJ6_getChars_ba4f3_73 rfl hz649432.symm (Nat.le_of_ble_eq_true rfl) rfl ?_
          refine G_iload 0 dr_cJ6_getChars_ba4f3_76 rfl ?_
          refine G_gets dr_cJ6_getChars_ba4f3_78 wr_8_118 gr_on (fun x649434 hx649433 => ?_)
          subst hx649433
          refine G_iload_n 2 dr_cJ6_getChars_ba4f3_81 rfl ?_
          refine G_ineg dr_cJ6_getChars_ba4f3_82 (G_nam fun z649435 hz649435 => ?_)
          have ez649435 : z649435.toInt = -g649421.toInt := gI_neg hz649435 bg649421' (by decide)
          have bz649435 : gB z649435 1 99 := ⟨by omega, by omega⟩
          refine G_kbald (f := dg_O) dr_cJ6_getChars_ba4f3_83 gr_ont (gB_inr (by omega) (by omega)) (G_nam fun z649436 hz649436 => ?_)
          have bz649436 : gB z649436 (-2147483648) 2147483647 := gB_any z649436
          refine Gp_bast 1 hmq649100 he649424 dr_cJ6_getChars_ba4f3_84 rfl (gB_inr (by omega) (by omega)) (fun F649437 e649438 n649439 => ?_)
          obtain ⟨f649440, hf649440⟩ : ∃ z, z = upd f649422 z649432.toNatClampNeg (vp_nar .byte z649436) := ⟨_, rfl⟩
          rw [← hf649440] at e649438
          have he649441 : F649437 q649100 = .inl (I .byte, n649104, .inl f649440) := e649438
          have hfr649442 : rFr [q649100] P649098 F649099 F649437 := rFr_put' List.mem_cons_self hfr649425 n649439
          have bf649440 : gF f649440 (-128) 127 := gF_upd hf649440 bf649422 gB_byte
          refine G_iload_n 2 dr_cJ6_getChars_ba4f3_85 rfl ?_
          refine G_bipush (-9) dr_cJ6_getChars_ba4f3_86 (by decide +kernel) ?_
          refine G_icmp_ge 104 dr_cJ6_getChars_ba4f3_88 (by decide +kernel) (fun hc649443 => ?_) (fun hc649443 => ?_)
          · have r649444 : (-9) ≤ g649421.toInt := gj_leL hc649443 (show Int32.toInt (-9) = (-9) by decide)
            have bg649421'' : gB g649421 (-9) (-1) := ⟨by omega, by omega⟩
            refine G_iload 1 dr_cJ6_getChars_ba4f3_104 rfl ?_
            refine G_if_eq 118 dr_cJ6_getChars_ba4f3_106 (by decide +kernel) (fun hc => absurd hc (by decide)) (fun _ => ?_)
            refine G_aload_n 4 dr_cJ6_getChars_ba4f3_109 rfl ?_
            have bz649432' : gB z649432 1 16777215 := ⟨by omega, by omega⟩
            obtain ⟨z649445, hz649445⟩ : ∃ z : Int32, z = z649432 + Int32.ofInt (-1) := ⟨_, rfl⟩
            have ez649445 : z649445.toInt = z649432.toInt + (-1) := gI_inc hz649445 (by decide) bz649432' (by decide) (by decide)
            have bz649445 : gB z649445 0 16777214 := ⟨by omega, by omega⟩
            refine G_iinc (L' := [(5, .int z649445), (6, .int 1), (0, .int g649421), (1, .int p649102), (2, .ref q649100)]) z649445 0 dr_cJ6_getChars_ba4f3_110 rfl hz649445.symm (Nat.le_of_ble_eq_true rfl) rfl ?_
            refine G_iload 0 dr_cJ6_getChars_ba4f3_113 rfl ?_
            refine G_bipush 45 dr_cJ6_getChars_ba4f3_115 (by decide +kernel) ?_
            refine Gp_bast 1 hmq649100 he649441 dr_cJ6_getChars_ba4f3_117 rfl (gB_inr (by omega) (by omega)) (fun F649446 e649447 n649448 => ?_)
            obtain ⟨f649449, hf649449⟩ : ∃ z, z = upd f649440 z649445.toNatClampNeg (vp_nar .byte 45) := ⟨_, rfl⟩
            rw [← hf649449] at e649447
            have he649450 : F649446 q649100 = .inl (I .byte, n649104, .inl f649449) := e649447
            have hfr649451 : rFr [q649100] P649098 F649099 F649446 := rFr_put' List.mem_cons_self hfr649442 n649448
            have bf649449 : gF f649449 (-128) 127 := gF_upd hf649449 bf649440 gB_byte
            refine G_iload 0 dr_cJ6_getChars_ba4f3_118 rfl ?_
            exact G_iretA dr_cJ6_getChars_ba4f3_120 rfl (Nat.le_of_ble_eq_true rfl) (Nat.le_of_ble_eq_true rfl) ⟨F649446, z649445, f649449, rfl, rfl, hfr649451, he649450, (Nat.le_of_ble_eq_true rfl), (Nat.le_of_ble_eq_true rfl), (gB_w bz649445 (by decide) (by decide)), bf649449⟩
          · have r649452 : g649421.toInt < (-9) := gj_nleL hc649443 (show Int32.toInt (-9) = (-9) by decide)
            have bg649421'' : gB g649421 (-99) (-10) := ⟨by omega, by omega⟩
            have x649453 : (2 : Int) ≤ (g649420.toInt - 1) := dgB_2 x649427 (by omega)
            refine G_aload_n 4 dr_cJ6_getChars_ba4f3_91 rfl ?_
            have bz649432' : gB z649432 1 16777215 := ⟨by omega, by omega⟩
            obtain ⟨z649454, hz649454⟩ : ∃ z : Int32, z = z649432 + Int32.ofInt (-1) := ⟨_, rfl⟩
            have ez649454 : z649454.toInt = z649432.toInt + (-1) := gI_inc hz649454 (by decide) bz649432' (by decide) (by decide)
            have bz649454 : gB z649454 0 16777214 := ⟨by omega, by omega⟩
            refine G_iinc (L' := [(5, .int z649454), (6, .int 1), (0, .int g649421), (1, .int p649102), (2, .ref q649100)]) z649454 0 dr_cJ6_getChars_ba4f3_92 rfl hz649454.symm (Nat.le_of_ble_eq_true rfl) rfl ?_
            refine G_iload 0 dr_cJ6_getChars_ba4f3_95 rfl ?_
            refine G_gets dr_cJ6_getChars_ba4f3_97 wr_8_120 gr_te (fun x649456 hx649455 => ?_)
            subst hx649455
            refine G_iload_n 2 dr_cJ6_getChars_ba4f3_100 rfl ?_
            refine G_ineg dr_cJ6_getChars_ba4f3_101 (G_nam fun z649457 hz649457 => ?_)
            have ez649457 : z649457.toInt = -g649421.toInt := gI_neg hz649457 bg649421'' (by decide)
            have bz649457 : gB z649457 10 99 := ⟨by omega, by omega⟩
            refine G_kbald (f := dg_T) dr_cJ6_getChars_ba4f3_102 gr_tet (gB_inr (by omega) (by omega)) (G_nam fun z649458 hz649458 => ?_)
            have bz649458 : gB z649458 (-2147483648) 2147483647 := gB_any z649458
            refine Gp_bast 1 hmq649100 he649441 dr_cJ6_getChars_ba4f3_103 rfl (gB_inr (by omega) (by omega)) (fun F649459 e649460 n649461 => ?_)
            obtain ⟨f649462, hf649462⟩ : ∃ z, z = upd f649440 z649454.toNatClampNeg (vp_nar .byte z649458) := ⟨_, rfl⟩
            rw [← hf649462] at e649460
            have he649463 : F649459 q649100 = .inl (I .byte, n649104, .inl f649462) := e649460
            have hfr649464 : rFr [q649100] P649098 F649099 F649459 := rFr_put' List.mem_cons_self hfr649442 n649461
            have bf649462 : gF f649462 (-128) 127 := gF_upd hf649462 bf649440 gB_byte
            refine G_iload 1 dr_cJ6_getChars_ba4f3_104 rfl ?_
            refine G_if_eq 118 dr_cJ6_getChars_ba4f3_106 (by decide +kernel) (fun hc => absurd hc (by decide)) (fun _ => ?_)
            refine G_aload_n 4 dr_cJ6_getChars_ba4f3_109 rfl ?_
            have bz649454' : gB z649454 1 16777214 := ⟨by omega, by omega⟩
            obtain ⟨z649465, hz649465⟩ : ∃ z : Int32, z = z649454 + Int32.ofInt (-1) := ⟨_, rfl⟩
            have ez649465 : z649465.toInt = z649454.toInt + (-1) := gI_inc hz649465 (by decide) bz649454' (by decide) (by decide)
            have bz649465 : gB z649465 0 16777213 := ⟨by omega, by omega⟩
            refine G_iinc (L' := [(5, .int z649465), (6, .int 1), (0, .int g649421), (1, .int p649102), (2, .ref q649100)]) z649465 0 dr_cJ6_getChars_ba4f3_110 rfl hz649465.symm (Nat.le_of_ble_eq_true rfl) rfl ?_
            refine G_iload 0 dr_cJ6_getChars_ba4f3_113 rfl ?_
            refine G_bipush 45 dr_cJ6_getChars_ba4f3_115 (by decide +kernel) ?_
            refine Gp_bast 1 hmq649100 he649463 dr_cJ6_getChars_ba4f3_117 rfl (gB_inr (by omega) (by omega)) (fun F649466 e649467 n649468 => ?_)
            obtain ⟨f649469, hf649469⟩ : ∃ z, z = upd f649462 z649465.toNatClampNeg (vp_nar .byte 45) := ⟨_, rfl⟩
            rw [← hf649469] at e649467
            have he649470 : F649466 q649100 = .inl (I .byte, n649104, .inl f649469) := e649467
            have hfr649471 : rFr [q649100] P649098 F649099 F649466 := rFr_put' List.mem_cons_self hfr649464 n649468
            have bf649469 : gF f649469 (-128) 127 := gF_upd hf649469 bf649462 gB_byte
            refine G_iload 0 dr_cJ6_getChars_ba4f3_118 rfl ?_
            exact G_iretA dr_cJ6_getChars_ba4f3_120 rfl (Nat.le_of_ble_eq_true rfl) (Nat.le_of_ble_eq_true rfl) ⟨F649466, z649465, f649469, rfl, rfl, hfr649471, he649470, (Nat.le_of_ble_eq_true rfl), (Nat.le_of_ble_eq_true rfl), (gB_w bz649465 (by decide) (by decide)), bf649469⟩
        · have r649472 : g649421.toInt ≤ (-100) := gj_nltL hc649429 (show Int32.toInt (-100) = (-100) by decide)
          have bg649421' : gB g649421 (-2147483648) (-100) := ⟨by omega, by omega⟩
          have x649473 : (3 : Int) ≤ (g649420.toInt - 1) := dgB_3 x649427 (by omega)
          refine G_iload_n 2 dr_cJ6_getChars_ba4f3_28 rfl ?_
          refine G_bipush 100 dr_cJ6_getChars_ba4f3_29 (by decide +kernel) ?_
          refine G_idiv dr_cJ6_getChars_ba4f3_31 (by decide) (G_nam fun z649474 hz649474 => ?_)
          have ez649474 : z649474.toInt = -((-g649421.toInt) / 100) := gI_divn hz649474 bg649421' (by decide) (by decide) (by decide)
          have bz649474 : gB z649474 (-21474836) (-1) := ⟨by omega, by omega⟩
          refine G_istore_n (L' := [(3, .int z649474), (6, .int 1), (5, .int g649420), (0, .int g649421), (1, .int p649102), (2, .ref q649100)]) dr_cJ6_getChars_ba4f3_32 (Nat.le_of_ble_eq_true rfl) rfl ?_
          refine G_iload_n 0 dr_cJ6_getChars_ba4f3_33 rfl ?_
          refine G_bipush 100 dr_cJ6_getChars_ba4f3_34 (by decide +kernel) ?_
          refine G_imul dr_cJ6_getChars_ba4f3_36 (G_nam fun z649475 hz649475 => ?_)
          have ez649475 : z649475.toInt = z649474.toInt * 100 := gI_mulK hz649475 (by decide) (by omega) (by omega)
          have bz649475 : gB z649475 (-2147483600) (-100) := ⟨by omega, by omega⟩
          refine G_iload_n 3 dr_cJ6_getChars_ba4f3_37 rfl ?_
          refine G_isub dr_cJ6_getChars_ba4f3_38 (G_nam fun z649476 hz649476 => ?_)
          have ez649476 : z649476.toInt = z649475.toInt - g649421.toInt := by rw [gI_sub hz649476 bz649475 bg649421' (by decide) (by decide)]
          have bz649476 : gB z649476 (-2147483500) 2147483548 := gB_sub (gI_sub hz649476 bz649475 bg649421' (by decide) (by decide)) bz649475 bg649421' (by decide) (by decide)
          refine G_istore (L' := [(4, .int z649476), (3, .int z649474), (6, .int 1), (5, .int g649420), (0, .int g649421), (1, .int p649102), (2, .ref q649100)]) dr_cJ6_getChars_ba4f3_39 (Nat.le_of_ble_eq_true rfl) rfl ?_
          refine G_iload_n 1 dr_cJ6_getChars_ba4f3_41 rfl ?_
          refine G_istore_n (L' := [(0, .int z649474), (4, .int z649476), (3, .int z649474), (6, .int 1), (5, .int g649420), (1, .int p649102), (2, .ref q649100)]) dr_cJ6_getChars_ba4f3_42 (Nat.le_of_ble_eq_true rfl) rfl ?_
          refine G_aload_n 6 dr_cJ6_getChars_ba4f3_43 rfl ?_
          have bg649420' : gB g649420 2 16777216 := ⟨by omega, by omega⟩
          obtain ⟨z649477, hz649477⟩ : ∃ z : Int32, z = g649420 + Int32.ofInt (-1) := ⟨_, rfl⟩
          have ez649477 : z649477.toInt = g649420.toInt + (-1) := gI_inc hz649477 (by decide) bg649420' (by decide) (by decide)
          have bz649477 : gB z649477 1 16777215 := ⟨by omega, by omega⟩
          refine G_iinc (L' := [(5, .int z649477), (0, .int z649474), (4, .int z649476), (3, .int z649474), (6, .int 1), (1, .int p649102), (2, .ref q649100)]) z649477 4 dr_cJ6_getChars_ba4f3_44 rfl hz649477.symm (Nat.le_of_ble_eq_true rfl) rfl ?_
          refine G_iload 0 dr_cJ6_getChars_ba4f3_47 rfl ?_
          refine G_gets dr_cJ6_getChars_ba4f3_49 wr_8_118 gr_on (fun x649479 hx649478 => ?_)
          subst hx649478
          refine G_iload 2 dr_cJ6_getChars_ba4f3_52 rfl ?_
          refine G_kbald (f := dg_O) dr_cJ6_getChars_ba4f3_54 gr_ont (gB_inr (by omega) (by omega)) (G_nam fun z649480 hz649480 => ?_)
          have bz649480 : gB z649480 (-2147483648) 2147483647 := gB_any z649480
          refine Gp_bast 1 hmq649100 he649424 dr_cJ6_getChars_ba4f3_55 rfl (gB_inr (by omega) (by omega)) (fun F649481 e649482 n649483 => ?_)
          obtain ⟨f649484, hf649484⟩ : ∃ z, z = upd f649422 z649477.toNatClampNeg (vp_nar .byte z649480) := ⟨_, rfl⟩
          rw [← hf649484] at e649482
          have he649485 : F649481 q649100 = .inl (I .byte, n649104, .inl f649484) := e649482
          have hfr649486 : rFr [q649100] P649098 F649099 F649481 := rFr_put' List.mem_cons_self hfr649425 n649483
          have bf649484 : gF f649484 (-128) 127 := gF_upd hf649484 bf649422 gB_byte
          refine G_aload_n 6 dr_cJ6_getChars_ba4f3_56 rfl ?_
          obtain ⟨z649487, hz649487⟩ : ∃ z : Int32, z = z649477 + Int32.ofInt (-1) := ⟨_, rfl⟩
          have ez649487 : z649487.toInt = z649477.toInt + (-1) := gI_inc hz649487 (by decide) bz649477 (by decide) (by decide)
          have bz649487 : gB z649487 0 16777214 := ⟨by omega, by omega⟩
          refine G_iinc (L' := [(5, .int z649487), (0, .int z649474), (4, .int z649476), (3, .int z649474), (6, .int 1), (1, .int p649102), (2, .ref q649100)]) z649487 0 dr_cJ6_getChars_ba4f3_57 rfl hz649487.symm (Nat.le_of_ble_eq_true rfl) rfl ?_
          refine G_iload 0 dr_cJ6_getChars_ba4f3_60 rfl ?_
          refine G_gets dr_cJ6_getChars_ba4f3_62 wr_8_120 gr_te (fun x649489 hx649488 => ?_)
          subst hx649488
          refine G_iload 2 dr_cJ6_getChars_ba4f3_65 rfl ?_
          refine G_kbald (f := dg_T) dr_cJ6_getChars_ba4f3_67 gr_tet (gB_inr (by omega) (by omega)) (G_nam fun z649490 hz649490 => ?_)
          have bz649490 : gB z649490 (-2147483648) 2147483647 := gB_any z649490
          refine Gp_bast 1 hmq649100 he649485 dr_cJ6_getChars_ba4f3_68 rfl (gB_inr (by omega) (by omega)) (fun F649491 e649492 n649493 => ?_)
          obtain ⟨f649494, hf649494⟩ : ∃ z, z = upd f649484 z649487.toNatClampNeg (vp_nar .byte z649490) := ⟨_, rfl⟩
          rw [← hf649494] at e649492
          have he649495 : F649491 q649100 = .inl (I .byte, n649104, .inl f649494) := e649492
          have hfr649496 : rFr [q649100] P649098 F649099 F649491 := rFr_put' List.mem_cons_self hfr649486 n649493
          have bf649494 : gF f649494 (-128) 127 := gF_upd hf649494 bf649484 gB_byte
          refine G_goto 22 dr_cJ6_getChars_ba4f3_69 (by decide +kernel) ?_
          refine G_lv (L' := [(6, .int 1), (5, .int z649487), (0, .int z649474), (1, .int p649102), (2, .ref q649100)]) [4, 0, 1, 5, 6] rfl ?_
          exact ih22_649428 F649491 z649487 z649474 f649494 (gB_w bz649487 (by decide) (by decide)) (gB_w bz649474 (by decide) (by decide)) bf649494 hfr649496 he649495 (by have qa0 : Int32.toInt 1 = 1 := (by decide); omega) (by have q10 : Int32.toInt 10 = 10 := (by decide); have q11 : Int32.toInt 11 = 11 := (by decide); first | exact dgB_up (dgS_ip x649106 (by omega) (by omega)) (by omega) (by omega) | exact dgB_up (dgS_in x649106 (by omega)) (by omega) (by omega) | exact dgB_up x649427 (by omega) (by omega) | exact dgB_up (dgB_st x649427 (by omega) (by omega) (by omega)) (by omega) (by omega)) (by have qa0 : Int32.toInt 1 = 1 := (by decide); omega) (by have qa0 : Int32.toInt 1 = 1 := (by decide); omega)
    exact hlp22_649428 ((-p649101.toInt).toNat + 1) F649099 p649102 p649101 f649103 bp649102 bp649101' bf649103 (rFr_v (rFr_rf (W := []) (P := P649098) (F := F649099)) (fun b hn => nm_n)) heq649100 (by have qa0 : Int32.toInt 1 = 1 := (by decide); omega) (by have q10 : Int32.toInt 10 = 10 := (by decide); have q11 : Int32.toInt 11 = 11 := (by decide); first | exact dgB_up (dgS_ip x649106 (by omega) (by omega)) (by omega) (by omega) | exact dgB_up (dgS_in x649106 (by omega)) (by omega) (by omega)) (by have qa0 : Int32.toInt 1 = 1 := (by decide); omega) (Nat.lt_succ_self _)
