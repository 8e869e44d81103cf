theorem dr_cJ0_indexOf_2f485_0 : decode cJ0_indexOf_2f485 0 = .ok (.aload_n 0, 1) := by decide +kernel
theorem dr_cJ0_indexOf_2f485_1 : decode cJ0_indexOf_2f485 1 = .ok (.invokevirtual 335, 3) := by decide +kernel
theorem dr_cJ0_indexOf_2f485_4 : decode cJ0_indexOf_2f485 4 = .ok (.istore_n 2, 1) := by decide +kernel
theorem dr_cJ0_indexOf_2f485_5 : decode cJ0_indexOf_2f485 5 = .ok (.iload_n 2, 1) := by decide +kernel
theorem dr_cJ0_indexOf_2f485_6 : decode cJ0_indexOf_2f485 6 = .ok (.aload_n 1, 1) := by decide +kernel
theorem dr_cJ0_indexOf_2f485_7 : decode cJ0_indexOf_2f485 7 = .ok (.invokevirtual 335, 3) := by decide +kernel
theorem dr_cJ0_indexOf_2f485_10 : decode cJ0_indexOf_2f485 10 = .ok (.if_icmp .ne 36, 3) := by decide +kernel
theorem dr_cJ0_indexOf_2f485_13 : decode cJ0_indexOf_2f485 13 = .ok (.aload_n 0, 1) := by decide +kernel
theorem dr_cJ0_indexOf_2f485_14 : decode cJ0_indexOf_2f485 14 = .ok (.invokevirtual 492, 3) := by decide +kernel
theorem dr_cJ0_indexOf_2f485_17 : decode cJ0_indexOf_2f485 17 = .ok (.ifCond .eq 17, 3) := by decide +kernel
theorem dr_cJ0_indexOf_2f485_20 : decode cJ0_indexOf_2f485 20 = .ok (.aload_n 0, 1) := by decide +kernel
theorem dr_cJ0_indexOf_2f485_21 : decode cJ0_indexOf_2f485 21 = .ok (.getfield 9, 3) := by decide +kernel
theorem dr_cJ0_indexOf_2f485_24 : decode cJ0_indexOf_2f485 24 = .ok (.aload_n 1, 1) := by decide +kernel
theorem dr_cJ0_indexOf_2f485_25 : decode cJ0_indexOf_2f485 25 = .ok (.getfield 9, 3) := by decide +kernel
theorem dr_cJ0_indexOf_2f485_28 : decode cJ0_indexOf_2f485 28 = .ok (.invokestatic 647, 3) := by decide +kernel
theorem wr_8_200 : (Jvm.Cond.methodLink "java/lang/String" (647 : Nat) ({ cls := "java/lang/StringLatin1", name := "indexOf", desc := "([B[B)I" } : Jvm.MethodName)) ∈ gw := gw_8 200 rfl rfl
theorem wr_8_202 : (Jvm.Cond.code ({ cls := "java/lang/StringLatin1", name := "indexOf", desc := "([B[B)I" } : Jvm.MethodName) prog_37_method_24_code (2 : Nat) (Option.some Jvm.ClassFile.FieldType.int)) ∈ gw := gw_8 202 rfl rfl
theorem wr_8_201 : (Jvm.Cond.static ({ cls := "java/lang/StringLatin1", name := "indexOf", desc := "([B[B)I" } : Jvm.MethodName)) ∈ gw := gw_8 201 rfl rfl
theorem dr_cJ0_indexOf_2f485_31 : decode cJ0_indexOf_2f485 31 = .ok (.goto 14, 3) := by decide +kernel
theorem dr_cJ0_indexOf_2f485_45 : decode cJ0_indexOf_2f485 45 = .ok (.ireturn, 1) := by decide +kernel
theorem dr_cJ1_canEncode_9a6ad_0 : decode cJ1_canEncode_9a6ad 0 = .ok (.iload_n 0, 1) := by decide +kernel
theorem dr_cJ1_canEncode_9a6ad_1 : decode cJ1_canEncode_9a6ad 1 = .ok (.ifCond .lt 14, 3) := by decide +kernel
theorem dr_cJ1_canEncode_9a6ad_15 : decode cJ1_canEncode_9a6ad 15 = .ok (.iconst 0, 1) := by decide +kernel
theorem dr_cJ1_canEncode_9a6ad_16 : decode cJ1_canEncode_9a6ad 16 = .ok (.ireturn, 1) := by decide +kernel
theorem dr_cJ1_canEncode_9a6ad_4 : decode cJ1_canEncode_9a6ad 4 = .ok (.iload_n 0, 1) := by decide +kernel
theorem dr_cJ1_canEncode_9a6ad_5 : decode cJ1_canEncode_9a6ad 5 = .ok (.sipush 255, 3) := by decide +kernel
theorem dr_cJ1_canEncode_9a6ad_8 : decode cJ1_canEncode_9a6ad 8 = .ok (.if_icmp .gt 7, 3) := by decide +kernel
theorem dr_cJ1_canEncode_9a6ad_11 : decode cJ1_canEncode_9a6ad 11 = .ok (.iconst 1, 1) := by decide +kernel
theorem dr_cJ1_canEncode_9a6ad_12 : decode cJ1_canEncode_9a6ad 12 = .ok (.goto 4, 3) := by decide +kernel
theorem dr_cJ1_indexOfChar_4cfef_0 : decode cJ1_indexOfChar_4cfef 0 = .ok (.iload_n 1, 1) := by decide +kernel
theorem dr_cJ1_indexOfChar_4cfef_1 : decode cJ1_indexOfChar_4cfef 1 = .ok (.i2b, 1) := by decide +kernel
theorem dr_cJ1_indexOfChar_4cfef_2 : decode cJ1_indexOfChar_4cfef 2 = .ok (.istore 4, 2) := by decide +kernel
theorem dr_cJ1_indexOfChar_4cfef_4 : decode cJ1_indexOfChar_4cfef 4 = .ok (.iload_n 2, 1) := by decide +kernel
theorem dr_cJ1_indexOfChar_4cfef_5 : decode cJ1_indexOfChar_4cfef 5 = .ok (.istore 5, 2) := by decide +kernel
theorem dr_cJ1_indexOfChar_4cfef_7 : decode cJ1_indexOfChar_4cfef 7 = .ok (.iload 5, 2) := by decide +kernel
theorem dr_cJ1_indexOfChar_4cfef_9 : decode cJ1_indexOfChar_4cfef 9 = .ok (.iload_n 3, 1) := by decide +kernel
theorem dr_cJ1_indexOfChar_4cfef_10 : decode cJ1_indexOfChar_4cfef 10 = .ok (.if_icmp .ge 21, 3) := by decide +kernel
theorem dr_cJ1_indexOfChar_4cfef_31 : decode cJ1_indexOfChar_4cfef 31 = .ok (.iconst (-1), 1) := by decide +kernel
theorem dr_cJ1_indexOfChar_4cfef_32 : decode cJ1_indexOfChar_4cfef 32 = .ok (.ireturn, 1) := by decide +kernel
theorem dr_cJ1_indexOfChar_4cfef_13 : decode cJ1_indexOfChar_4cfef 13 = .ok (.aload_n 0, 1) := by decide +kernel
theorem dr_cJ1_indexOfChar_4cfef_14 : decode cJ1_indexOfChar_4cfef 14 = .ok (.iload 5, 2) := by decide +kernel
theorem dr_cJ1_indexOfChar_4cfef_16 : decode cJ1_indexOfChar_4cfef 16 = .ok (.baload, 1) := by decide +kernel
theorem dr_cJ1_indexOfChar_4cfef_17 : decode cJ1_indexOfChar_4cfef 17 = .ok (.iload 4, 2) := by decide +kernel
theorem dr_cJ1_indexOfChar_4cfef_19 : decode cJ1_indexOfChar_4cfef 19 = .ok (.if_icmp .ne 6, 3) := by decide +kernel
theorem dr_cJ1_indexOfChar_4cfef_25 : decode cJ1_indexOfChar_4cfef 25 = .ok (.iinc 5 1, 3) := by decide +kernel
theorem dr_cJ1_indexOfChar_4cfef_28 : decode cJ1_indexOfChar_4cfef 28 = .ok (.goto (-21), 3) := by decide +kernel
theorem dr_cJ1_indexOfChar_4cfef_22 : decode cJ1_indexOfChar_4cfef 22 = .ok (.iload 5, 2) := by decide +kernel
theorem dr_cJ1_indexOfChar_4cfef_24 : decode cJ1_indexOfChar_4cfef 24 = .ok (.ireturn, 1) := by decide +kernel
theorem dr_cJ1_indexOf_4cfef_0 : decode cJ1_indexOf_4cfef 0 = .ok (.iload_n 1, 1) := by decide +kernel
theorem dr_cJ1_indexOf_4cfef_1 : decode cJ1_indexOf_4cfef 1 = .ok (.invokestatic 88, 3) := by decide +kernel
theorem wr_9_2 : (Jvm.Cond.methodLink "java/lang/StringLatin1" (88 : Nat) ({ cls := "java/lang/StringLatin1", name := "canEncode", desc := "(I)Z" } : Jvm.MethodName)) ∈ gw := gw_9 2 rfl rfl
theorem wr_9_4 : (Jvm.Cond.code ({ cls := "java/lang/StringLatin1", name := "canEncode", desc := "(I)Z" } : Jvm.MethodName) prog_37_method_4_code (1 : Nat) (Option.some Jvm.ClassFile.FieldType.boolean)) ∈ gw := gw_9 4 rfl rfl
theorem wr_9_3 : (Jvm.Cond.static ({ cls := "java/lang/StringLatin1", name := "canEncode", desc := "(I)Z" } : Jvm.MethodName)) ∈ gw := gw_9 3 rfl rfl
theorem dr_cJ1_indexOf_4cfef_4 : decode cJ1_indexOf_4cfef 4 = .ok (.ifCond .ne 5, 3) := by decide +kernel
theorem dr_cJ1_indexOf_4cfef_7 : decode cJ1_indexOf_4cfef 7 = .ok (.iconst (-1), 1) := by decide +kernel
theorem dr_cJ1_indexOf_4cfef_8 : decode cJ1_indexOf_4cfef 8 = .ok (.ireturn, 1) := by decide +kernel
theorem dr_cJ1_indexOf_4cfef_9 : decode cJ1_indexOf_4cfef 9 = .ok (.iload_n 2, 1) := by decide +kernel
theorem dr_cJ1_indexOf_4cfef_10 : decode cJ1_indexOf_4cfef 10 = .ok (.iconst 0, 1) := by decide +kernel
theorem dr_cJ1_indexOf_4cfef_11 : decode cJ1_indexOf_4cfef 11 = .ok (.invokestatic 92, 3) := by decide +kernel
theorem wr_9_5 : (Jvm.Cond.methodLink "java/lang/StringLatin1" (92 : Nat) ({ cls := "java/lang/Math", name := "max", desc := "(II)I" } : Jvm.MethodName)) ∈ gw := gw_9 5 rfl rfl
theorem dr_cJ1_indexOf_4cfef_14 : decode cJ1_indexOf_4cfef 14 = .ok (.istore_n 2, 1) := by decide +kernel
theorem dr_cJ1_indexOf_4cfef_15 : decode cJ1_indexOf_4cfef 15 = .ok (.iload_n 3, 1) := by decide +kernel
theorem dr_cJ1_indexOf_4cfef_16 : decode cJ1_indexOf_4cfef 16 = .ok (.aload_n 0, 1) := by decide +kernel
theorem dr_cJ1_indexOf_4cfef_17 : decode cJ1_indexOf_4cfef 17 = .ok (.arraylength, 1) := by decide +kernel
theorem dr_cJ1_indexOf_4cfef_18 : decode cJ1_indexOf_4cfef 18 = .ok (.invokestatic 38, 3) := by decide +kernel
theorem wr_9_6 : (Jvm.Cond.methodLink "java/lang/StringLatin1" (38 : Nat) ({ cls := "java/lang/Math", name := "min", desc := "(II)I" } : Jvm.MethodName)) ∈ gw := gw_9 6 rfl rfl
theorem dr_cJ1_indexOf_4cfef_21 : decode cJ1_indexOf_4cfef 21 = .ok (.istore_n 3, 1) := by decide +kernel
theorem dr_cJ1_indexOf_4cfef_22 : decode cJ1_indexOf_4cfef 22 = .ok (.iload_n 2, 1) := by decide +kernel
theorem dr_cJ1_indexOf_4cfef_23 : decode cJ1_indexOf_4cfef 23 = .ok (.iload_n 3, 1) := by decide +kernel
theorem dr_cJ1_indexOf_4cfef_24 : decode cJ1_indexOf_4cfef 24 = .ok (.if_icmp .lt 5, 3) := by decide +kernel
theorem dr_cJ1_indexOf_4cfef_29 : decode cJ1_indexOf_4cfef 29 = .ok (.aload_n 0, 1) := by decide +kernel
theorem dr_cJ1_indexOf_4cfef_30 : decode cJ1_indexOf_4cfef 30 = .ok (.iload_n 1, 1) := by decide +kernel
theorem dr_cJ1_indexOf_4cfef_31 : decode cJ1_indexOf_4cfef 31 = .ok (.iload_n 2, 1) := by decide +kernel
theorem dr_cJ1_indexOf_4cfef_32 : decode cJ1_indexOf_4cfef 32 = .ok (.iload_n 3, 1) := by decide +kernel
theorem dr_cJ1_indexOf_4cfef_33 : decode cJ1_indexOf_4cfef 33 = .ok (.invokestatic 95, 3) := by decide +kernel
theorem wr_9_7 : (Jvm.Cond.methodLink "java/lang/StringLatin1" (95 : Nat) ({ cls := "java/lang/StringLatin1", name := "indexOfChar", desc := "([BIII)I" } : Jvm.MethodName)) ∈ gw := gw_9 7 rfl rfl
theorem wr_9_9 : (Jvm.Cond.code ({ cls := "java/lang/StringLatin1", name := "indexOfChar", desc := "([BIII)I" } : Jvm.MethodName) prog_37_method_23_code (6 : Nat) (Option.some Jvm.ClassFile.FieldType.int)) ∈ gw := gw_9 9 rfl rfl
theorem wr_9_8 : (Jvm.Cond.static ({ cls := "java/lang/StringLatin1", name := "indexOfChar", desc := "([BIII)I" } : Jvm.MethodName)) ∈ gw := gw_9 8 rfl rfl
theorem dr_cJ1_indexOf_4cfef_36 : decode cJ1_indexOf_4cfef 36 = .ok (.ireturn, 1) := by decide +kernel
theorem dr_cJ1_indexOf_4cfef_27 : decode cJ1_indexOf_4cfef 27 = .ok (.iconst (-1), 1) := by decide +kernel
theorem dr_cJ1_indexOf_4cfef_28 : decode cJ1_indexOf_4cfef 28 = .ok (.ireturn, 1) := by decide +kernel
theorem dr_cJ0_indexOf_7cf53_0 : decode cJ0_indexOf_7cf53 0 = .ok (.aload_n 0, 1) := by decide +kernel
theorem dr_cJ0_indexOf_7cf53_1 : decode cJ0_indexOf_7cf53 1 = .ok (.invokevirtual 492, 3) := by decide +kernel
theorem dr_cJ0_indexOf_7cf53_4 : decode cJ0_indexOf_7cf53 4 = .ok (.ifCond .eq 19, 3) := by decide +kernel
theorem dr_cJ0_indexOf_7cf53_7 : decode cJ0_indexOf_7cf53 7 = .ok (.aload_n 0, 1) := by decide +kernel
theorem dr_cJ0_indexOf_7cf53_8 : decode cJ0_indexOf_7cf53 8 = .ok (.getfield 9, 3) := by decide +kernel
theorem dr_cJ0_indexOf_7cf53_11 : decode cJ0_indexOf_7cf53 11 = .ok (.iload_n 1, 1) := by decide +kernel
theorem dr_cJ0_indexOf_7cf53_12 : decode cJ0_indexOf_7cf53 12 = .ok (.iload_n 2, 1) := by decide +kernel
theorem dr_cJ0_indexOf_7cf53_13 : decode cJ0_indexOf_7cf53 13 = .ok (.aload_n 0, 1) := by decide +kernel
theorem dr_cJ0_indexOf_7cf53_14 : decode cJ0_indexOf_7cf53 14 = .ok (.invokevirtual 505, 3) := by decide +kernel
theorem wr_8_238 : (Jvm.Cond.methodLink "java/lang/String" (505 : Nat) ({ cls := "java/lang/String", name := "length", desc := "()I" } : Jvm.MethodName)) ∈ gw := gw_8 238 rfl rfl
theorem dr_cJ0_indexOf_7cf53_17 : decode cJ0_indexOf_7cf53 17 = .ok (.invokestatic 637, 3) := by decide +kernel
theorem wr_8_239 : (Jvm.Cond.methodLink "java/lang/String" (637 : Nat) ({ cls := "java/lang/StringLatin1", name := "indexOf", desc := "([BIII)I" } : Jvm.MethodName)) ∈ gw := gw_8 239 rfl rfl
theorem wr_9_1 : (Jvm.Cond.code ({ cls := "java/lang/StringLatin1", name := "indexOf", desc := "([BIII)I" } : Jvm.MethodName) prog_37_method_22_code (4 : Nat) (Option.some Jvm.ClassFile.FieldType.int)) ∈ gw := gw_9 1 rfl rfl
theorem wr_9_0 : (Jvm.Cond.static ({ cls := "java/lang/StringLatin1", name := "indexOf", desc := "([BIII)I" } : Jvm.MethodName)) ∈ gw := gw_9 0 rfl rfl
theorem dr_cJ0_indexOf_7cf53_20 : decode cJ0_indexOf_7cf53 20 = .ok (.goto 16, 3) := by decide +kernel
theorem dr_cJ0_indexOf_7cf53_36 : decode cJ0_indexOf_7cf53 36 = .ok (.ireturn, 1) := by decide +kernel
theorem dr_cJ0_indexOf_0f7a4_0 : decode cJ0_indexOf_0f7a4 0 = .ok (.aload_n 0, 1) := by decide +kernel
theorem dr_cJ0_indexOf_0f7a4_1 : decode cJ0_indexOf_0f7a4 1 = .ok (.iload_n 1, 1) := by decide +kernel
theorem dr_cJ0_indexOf_0f7a4_2 : decode cJ0_indexOf_0f7a4 2 = .ok (.iconst 0, 1) := by decide +kernel
theorem dr_cJ0_indexOf_0f7a4_3 : decode cJ0_indexOf_0f7a4 3 = .ok (.invokevirtual 633, 3) := by decide +kernel
theorem wr_8_234 : (Jvm.Cond.methodLink "java/lang/String" (633 : Nat) ({ cls := "java/lang/String", name := "indexOf", desc := "(II)I" } : Jvm.MethodName)) ∈ gw := gw_8 234 rfl rfl
theorem wr_8_237 : (Jvm.Cond.code ({ cls := "java/lang/String", name := "indexOf", desc := "(II)I" } : Jvm.MethodName) prog_34_method_80_code (3 : Nat) (Option.some Jvm.ClassFile.FieldType.int)) ∈ gw := gw_8 237 rfl rfl
theorem wr_8_235 : (Jvm.Cond.instanceMethod ({ cls := "java/lang/String", name := "indexOf", desc := "(II)I" } : Jvm.MethodName)) ∈ gw := gw_8 235 rfl rfl
theorem wr_8_236 : (Jvm.Cond.selects "java/lang/String" ({ cls := "java/lang/String", name := "indexOf", desc := "(II)I" } : Jvm.MethodName) ({ cls := "java/lang/String", name := "indexOf", desc := "(II)I" } : Jvm.MethodName)) ∈ gw := gw_8 236 rfl rfl
theorem dr_cJ0_indexOf_0f7a4_6 : decode cJ0_indexOf_0f7a4 6 = .ok (.ireturn, 1) := by decide +kernel
theorem dr_cJ6_stringSize_0f7a4_0 : decode cJ6_stringSize_0f7a4 0 = .ok (.iconst 1, 1) := by decide +kernel
theorem dr_cJ6_stringSize_0f7a4_1 : decode cJ6_stringSize_0f7a4 1 = .ok (.istore_n 1, 1) := by decide +kernel
theorem dr_cJ6_stringSize_0f7a4_2 : decode cJ6_stringSize_0f7a4 2 = .ok (.iload_n 0, 1) := by decide +kernel
theorem dr_cJ6_stringSize_0f7a4_3 : decode cJ6_stringSize_0f7a4 3 = .ok (.ifCond .lt 8, 3) := by decide +kernel
theorem dr_cJ6_stringSize_0f7a4_11 : decode cJ6_stringSize_0f7a4 11 = .ok (.bipush (-10), 2) := by decide +kernel
theorem dr_cJ6_stringSize_0f7a4_13 : decode cJ6_stringSize_0f7a4 13 = .ok (.istore_n 2, 1) := by decide +kernel
theorem dr_cJ6_stringSize_0f7a4_14 : decode cJ6_stringSize_0f7a4 14 = .ok (.iconst 1, 1) := by decide +kernel
theorem dr_cJ6_stringSize_0f7a4_15 : decode cJ6_stringSize_0f7a4 15 = .ok (.istore_n 3, 1) := by decide +kernel
theorem dr_cJ6_stringSize_0f7a4_16 : decode cJ6_stringSize_0f7a4 16 = .ok (.iload_n 3, 1) := by decide +kernel
theorem dr_cJ6_stringSize_0f7a4_17 : decode cJ6_stringSize_0f7a4 17 = .ok (.bipush 10, 2) := by decide +kernel
theorem dr_cJ6_stringSize_0f7a4_19 : decode cJ6_stringSize_0f7a4 19 = .ok (.if_icmp .ge 23, 3) := by decide +kernel
theorem dr_cJ6_stringSize_0f7a4_42 : decode cJ6_stringSize_0f7a4 42 = .ok (.bipush 10, 2) := by decide +kernel
theorem dr_cJ6_stringSize_0f7a4_44 : decode cJ6_stringSize_0f7a4 44 = .ok (.iload_n 1, 1) := by decide +kernel
theorem dr_cJ6_stringSize_0f7a4_45 : decode cJ6_stringSize_0f7a4 45 = .ok (.iadd, 1) := by decide +kernel
theorem dr_cJ6_stringSize_0f7a4_46 : decode cJ6_stringSize_0f7a4 46 = .ok (.ireturn, 1) := by decide +kernel
theorem dr_cJ6_stringSize_0f7a4_22 : decode cJ6_stringSize_0f7a4 22 = .ok (.iload_n 0, 1) := by decide +kernel
theorem dr_cJ6_stringSize_0f7a4_23 : decode cJ6_stringSize_0f7a4 23 = .ok (.iload_n 2, 1) := by decide +kernel
theorem dr_cJ6_stringSize_0f7a4_24 : decode cJ6_stringSize_0f7a4 24 = .ok (.if_icmp .le 7, 3) := by decide +kernel
theorem dr_cJ6_stringSize_0f7a4_31 : decode cJ6_stringSize_0f7a4 31 = .ok (.bipush 10, 2) := by decide +kernel
theorem dr_cJ6_stringSize_0f7a4_33 : decode cJ6_stringSize_0f7a4 33 = .ok (.iload_n 2, 1) := by decide +kernel
theorem dr_cJ6_stringSize_0f7a4_34 : decode cJ6_stringSize_0f7a4 34 = .ok (.imul, 1) := by decide +kernel
theorem dr_cJ6_stringSize_0f7a4_35 : decode cJ6_stringSize_0f7a4 35 = .ok (.istore_n 2, 1) := by decide +kernel
theorem dr_cJ6_stringSize_0f7a4_36 : decode cJ6_stringSize_0f7a4 36 = .ok (.iinc 3 1, 3) := by decide +kernel
theorem dr_cJ6_stringSize_0f7a4_39 : decode cJ6_stringSize_0f7a4 39 = .ok (.goto (-23), 3) := by decide +kernel
theorem dr_cJ6_stringSize_0f7a4_27 : decode cJ6_stringSize_0f7a4 27 = .ok (.iload_n 3, 1) := by decide +kernel
theorem dr_cJ6_stringSize_0f7a4_28 : decode cJ6_stringSize_0f7a4 28 = .ok (.iload_n 1, 1) := by decide +kernel
theorem dr_cJ6_stringSize_0f7a4_29 : decode cJ6_stringSize_0f7a4 29 = .ok (.iadd, 1) := by decide +kernel
theorem dr_cJ6_stringSize_0f7a4_30 : decode cJ6_stringSize_0f7a4 30 = .ok (.ireturn, 1) := by decide +kernel
theorem dr_cJ6_stringSize_0f7a4_6 : decode cJ6_stringSize_0f7a4 6 = .ok (.iconst 0, 1) := by decide +kernel
theorem dr_cJ6_stringSize_0f7a4_7 : decode cJ6_stringSize_0f7a4 7 = .ok (.istore_n 1, 1) := by decide +kernel
theorem dr_cJ6_stringSize_0f7a4_8 : decode cJ6_stringSize_0f7a4 8 = .ok (.iload_n 0, 1) := by decide +kernel
theorem dr_cJ6_stringSize_0f7a4_9 : decode cJ6_stringSize_0f7a4 9 = .ok (.ineg, 1) := by decide +kernel
theorem dr_cJ6_stringSize_0f7a4_10 : decode cJ6_stringSize_0f7a4 10 = .ok (.istore_n 0, 1) := by decide +kernel
theorem dr_cJ6_getChars_ba4f3_0 : decode cJ6_getChars_ba4f3 0 = .ok (.iload_n 1, 1) := by decide +kernel
theorem dr_cJ6_getChars_ba4f3_1 : decode cJ6_getChars_ba4f3 1 = .ok (.istore 5, 2) := by decide +kernel
theorem dr_cJ6_getChars_ba4f3_3 : decode cJ6_getChars_ba4f3 3 = .ok (.iload_n 0, 1) := by decide +kernel
theorem dr_cJ6_getChars_ba4f3_4 : decode cJ6_getChars_ba4f3 4 = .ok (.ifCond .ge 7, 3) := by decide +kernel
theorem dr_cJ6_getChars_ba4f3_11 : decode cJ6_getChars_ba4f3 11 = .ok (.iconst 0, 1) := by decide +kernel
theorem dr_cJ6_getChars_ba4f3_12 : decode cJ6_getChars_ba4f3 12 = .ok (.istore 6, 2) := by decide +kernel
theorem dr_cJ6_getChars_ba4f3_14 : decode cJ6_getChars_ba4f3 14 = .ok (.iload 6, 2) := by decide +kernel
theorem dr_cJ6_getChars_ba4f3_16 : decode cJ6_getChars_ba4f3 16 = .ok (.ifCond .ne 6, 3) := by decide +kernel
theorem dr_cJ6_getChars_ba4f3_19 : decode cJ6_getChars_ba4f3 19 = .ok (.iload_n 0, 1) := by decide +kernel
theorem dr_cJ6_getChars_ba4f3_20 : decode cJ6_getChars_ba4f3 20 = .ok (.ineg, 1) := by decide +kernel
theorem dr_cJ6_getChars_ba4f3_21 : decode cJ6_getChars_ba4f3 21 = .ok (.istore_n 0, 1) := by decide +kernel
theorem dr_cJ6_getChars_ba4f3_22 : decode cJ6_getChars_ba4f3 22 = .ok (.iload_n 0, 1) := by decide +kernel
theorem dr_cJ6_getChars_ba4f3_23 : decode cJ6_getChars_ba4f3 23 = .ok (.bipush (-100), 2) := by decide +kernel
theorem dr_cJ6_getChars_ba4f3_25 : decode cJ6_getChars_ba4f3 25 = .ok (.if_icmp .gt 47, 3) := by decide +kernel
theorem dr_cJ6_getChars_ba4f3_72 : decode cJ6_getChars_ba4f3 72 = .ok (.aload_n 2, 1) := by decide +kernel
theorem dr_cJ6_getChars_ba4f3_73 : decode cJ6_getChars_ba4f3 73 = .ok (.iinc 5 (-1), 3) := by decide +kernel
theorem dr_cJ6_getChars_ba4f3_76 : decode cJ6_getChars_ba4f3 76 = .ok (.iload 5, 2) := by decide +kernel
theorem dr_cJ6_getChars_ba4f3_78 : decode cJ6_getChars_ba4f3 78 = .ok (.getstatic 83, 3) := by decide +kernel
theorem wr_8_118 : (Jvm.Cond.fieldLink "java/lang/Integer" (83 : Nat) "java/lang/Integer" "DigitOnes" "[B") ∈ gw := gw_8 118 rfl rfl
theorem dr_cJ6_getChars_ba4f3_81 : decode cJ6_getChars_ba4f3 81 = .ok (.iload_n 0, 1) := by decide +kernel
theorem dr_cJ6_getChars_ba4f3_82 : decode cJ6_getChars_ba4f3 82 = .ok (.ineg, 1) := by decide +kernel
theorem dr_cJ6_getChars_ba4f3_83 : decode cJ6_getChars_ba4f3 83 = .ok (.baload, 1) := by decide +kernel
theorem dr_cJ6_getChars_ba4f3_84 : decode cJ6_getChars_ba4f3 84 = .ok (.bastore, 1) := by decide +kernel
theorem dr_cJ6_getChars_ba4f3_85 : decode cJ6_getChars_ba4f3 85 = .ok (.iload_n 0, 1) := by decide +kernel
theorem dr_cJ6_getChars_ba4f3_86 : decode cJ6_getChars_ba4f3 86 = .ok (.bipush (-9), 2) := by decide +kernel
theorem dr_cJ6_getChars_ba4f3_88 : decode cJ6_getChars_ba4f3 88 = .ok (.if_icmp .ge 16, 3) := by decide +kernel
theorem dr_cJ6_getChars_ba4f3_104 : decode cJ6_getChars_ba4f3 104 = .ok (.iload 6, 2) := by decide +kernel
theorem dr_cJ6_getChars_ba4f3_106 : decode cJ6_getChars_ba4f3 106 = .ok (.ifCond .eq 12, 3) := by decide +kernel
theorem dr_cJ6_getChars_ba4f3_118 : decode cJ6_getChars_ba4f3 118 = .ok (.iload 5, 2) := by decide +kernel
theorem dr_cJ6_getChars_ba4f3_120 : decode cJ6_getChars_ba4f3 120 = .ok (.ireturn, 1) := by decide +kernel
theorem dr_cJ6_getChars_ba4f3_91 : decode cJ6_getChars_ba4f3 91 = .ok (.aload_n 2, 1) := by decide +kernel
theorem dr_cJ6_getChars_ba4f3_92 : decode cJ6_getChars_ba4f3 92 = .ok (.iinc 5 (-1), 3) := by decide +kernel
theorem dr_cJ6_getChars_ba4f3_95 : decode cJ6_getChars_ba4f3 95 = .ok (.iload 5, 2) := by decide +kernel
theorem dr_cJ6_getChars_ba4f3_97 : decode cJ6_getChars_ba4f3 97 = .ok (.getstatic 87, 3) := by decide +kernel
theorem wr_8_120 : (Jvm.Cond.fieldLink "java/lang/Integer" (87 : Nat) "java/lang/Integer" "DigitTens" "[B") ∈ gw := gw_8 120 rfl rfl
theorem dr_cJ6_getChars_ba4f3_100 : decode cJ6_getChars_ba4f3 100 = .ok (.iload_n 0, 1) := by decide +kernel
theorem dr_cJ6_getChars_ba4f3_101 : decode cJ6_getChars_ba4f3 101 = .ok (.ineg, 1) := by decide +kernel
theorem dr_cJ6_getChars_ba4f3_102 : decode cJ6_getChars_ba4f3 102 = .ok (.baload, 1) := by decide +kernel
theorem dr_cJ6_getChars_ba4f3_103 : decode cJ6_getChars_ba4f3 103 = .ok (.bastore, 1) := by decide +kernel
theorem dr_cJ6_getChars_ba4f3_28 : decode cJ6_getChars_ba4f3 28 = .ok (.iload_n 0, 1) := by decide +kernel
theorem dr_cJ6_getChars_ba4f3_29 : decode cJ6_getChars_ba4f3 29 = .ok (.bipush 100, 2) := by decide +kernel
theorem dr_cJ6_getChars_ba4f3_31 : decode cJ6_getChars_ba4f3 31 = .ok (.idiv, 1) := by decide +kernel
theorem dr_cJ6_getChars_ba4f3_32 : decode cJ6_getChars_ba4f3 32 = .ok (.istore_n 3, 1) := by decide +kernel
theorem dr_cJ6_getChars_ba4f3_33 : decode cJ6_getChars_ba4f3 33 = .ok (.iload_n 3, 1) := by decide +kernel
theorem dr_cJ6_getChars_ba4f3_34 : decode cJ6_getChars_ba4f3 34 = .ok (.bipush 100, 2) := by decide +kernel
theorem dr_cJ6_getChars_ba4f3_36 : decode cJ6_getChars_ba4f3 36 = .ok (.imul, 1) := by decide +kernel
theorem dr_cJ6_getChars_ba4f3_37 : decode cJ6_getChars_ba4f3 37 = .ok (.iload_n 0, 1) := by decide +kernel
theorem dr_cJ6_getChars_ba4f3_38 : decode cJ6_getChars_ba4f3 38 = .ok (.isub, 1) := by decide +kernel
theorem dr_cJ6_getChars_ba4f3_39 : decode cJ6_getChars_ba4f3 39 = .ok (.istore 4, 2) := by decide +kernel
theorem dr_cJ6_getChars_ba4f3_41 : decode cJ6_getChars_ba4f3 41 = .ok (.iload_n 3, 1) := by decide +kernel
theorem dr_cJ6_getChars_ba4f3_42 : decode cJ6_getChars_ba4f3 42 = .ok (.istore_n 0, 1) := by decide +kernel
theorem dr_cJ6_getChars_ba4f3_43 : decode cJ6_getChars_ba4f3 43 = .ok (.aload_n 2, 1) := by decide +kernel
theorem dr_cJ6_getChars_ba4f3_44 : decode cJ6_getChars_ba4f3 44 = .ok (.iinc 5 (-1), 3) := by decide +kernel
theorem dr_cJ6_getChars_ba4f3_47 : decode cJ6_getChars_ba4f3 47 = .ok (.iload 5, 2) := by decide +kernel
theorem dr_cJ6_getChars_ba4f3_49 : decode cJ6_getChars_ba4f3 49 = .ok (.getstatic 83, 3) := by decide +kernel
theorem dr_cJ6_getChars_ba4f3_52 : decode cJ6_getChars_ba4f3 52 = .ok (.iload 4, 2) := by decide +kernel
theorem dr_cJ6_getChars_ba4f3_54 : decode cJ6_getChars_ba4f3 54 = .ok (.baload, 1) := by decide +kernel
theorem dr_cJ6_getChars_ba4f3_55 : decode cJ6_getChars_ba4f3 55 = .ok (.bastore, 1) := by decide +kernel
theorem dr_cJ6_getChars_ba4f3_56 : decode cJ6_getChars_ba4f3 56 = .ok (.aload_n 2, 1) := by decide +kernel
theorem dr_cJ6_getChars_ba4f3_57 : decode cJ6_getChars_ba4f3 57 = .ok (.iinc 5 (-1), 3) := by decide +kernel
theorem dr_cJ6_getChars_ba4f3_60 : decode cJ6_getChars_ba4f3 60 = .ok (.iload 5, 2) := by decide +kernel
theorem dr_cJ6_getChars_ba4f3_62 : decode cJ6_getChars_ba4f3 62 = .ok (.getstatic 87, 3) := by decide +kernel
theorem dr_cJ6_getChars_ba4f3_65 : decode cJ6_getChars_ba4f3 65 = .ok (.iload 4, 2) := by decide +kernel
theorem dr_cJ6_getChars_ba4f3_67 : decode cJ6_getChars_ba4f3 67 = .ok (.baload, 1) := by decide +kernel
theorem dr_cJ6_getChars_ba4f3_68 : decode cJ6_getChars_ba4f3 68 = .ok (.bastore, 1) := by decide +kernel
theorem dr_cJ6_getChars_ba4f3_69 : decode cJ6_getChars_ba4f3 69 = .ok (.goto (-47), 3) := by decide +kernel
theorem dr_cJ6_getChars_ba4f3_7 : decode cJ6_getChars_ba4f3 7 = .ok (.iconst 1, 1) := by decide +kernel
theorem dr_cJ6_getChars_ba4f3_8 : decode cJ6_getChars_ba4f3 8 = .ok (.goto 4, 3) := by decide +kernel
theorem dr_cJ6_getChars_ba4f3_109 : decode cJ6_getChars_ba4f3 109 = .ok (.aload_n 2, 1) := by decide +kernel
theorem dr_cJ6_getChars_ba4f3_110 : decode cJ6_getChars_ba4f3 110 = .ok (.iinc 5 (-1), 3) := by decide +kernel
theorem dr_cJ6_getChars_ba4f3_113 : decode cJ6_getChars_ba4f3 113 = .ok (.iload 5, 2) := by decide +kernel
theorem dr_cJ6_getChars_ba4f3_115 : decode cJ6_getChars_ba4f3 115 = .ok (.bipush 45, 2) := by decide +kernel
theorem dr_cJ6_getChars_ba4f3_117 : decode cJ6_getChars_ba4f3 117 = .ok (.bastore, 1) := by decide +kernel
abbrev ky_641731_String_indexOf : gKey := (cJ0_indexOf_2f485, 3, "java/lang/String", (some FieldType.int), [], "indexOf", fun _ _ => True)
def pp_641731_String_indexOf (D : va_G) (I : FieldType → ClassId) (P641718 : List Nat) (F641719 : Nat → va_E) (q641720 : Nat) (q641721 : Nat) (qs641722 : Nat) (qb641723 : Nat) (bs641724 : List Int32) (p641725 : Int32) (p641726 : Int32) (f641727 : Nat → Int32) (n641728 : Nat) : Option Value → va_W → Nat → Nat → Prop := fun r w dc ds => ∃ (o648782 : Int32), r = some (.int o648782) ∧ w = va_pl P641718 F641719 ∧ dc ≤ 0 ∧ ds ≤ 0 ∧ gB o648782 (-2147483646) 16777215 ∧ (o648782.toInt < 0 ∨ o648782.toInt + (n641728 : Int) ≤ (bs641724.length : Int)) ∧ ixP (fun j => bs641724.getD j 0) f641727 o648782
set_option maxRecDepth 100000 in
set_option maxHeartbeats 4000000 in
theorem cp_641731_String_indexOf (l : Launch) (hl0 : l.stackTraces = false) (D : va_G) (I : FieldType → ClassId) (P641718 : List Nat) (F641719 : Nat → va_E) (q641720 : Nat) (q641721 : Nat) (qs641722 : Nat) (qb641723 : Nat) (bs641724 : List Int32) (p641725 : Int32) (p641726 : Int32) (f641727 : Nat → Int32) (n641728 : Nat) (hmq641720 : q641720 ∈ P641718) (hmq641721 : q641721 ∈ P641718) (heq641720 : F641719 q641720 = .inr (0, [.ref q641721, .int 0, .int p641725, .int p641726])) (heq641721 : F641719 q641721 = .inl (I .byte, n641728, .inl f641727)) (hbs641724 : ∀ A s H, (gV D I).2.2.2.1 A s H → gSC qs641722 qb641723 bs641724 A s H) (nbs641724 : (bs641724.length : Int) ≤ 65535) (lbs641724 : gLB bs641724) (bp641726 : gB p641726 0 1) (bf641727 : gF f641727 (-128) 127) (x641729 : 1 ≤ (n641728 : Int)) (x641730 : ((n641728 : Int) ≤ 16777216)) : CtA (gV D I) l yJ0_indexOf_2f485 cJ0_indexOf_2f485 3 (some FieldType.int) 2 51 0 0 [.ref qs641722, .ref q641720] (va_pl P641718 F641719) (pp_641731_String_indexOf D I P641718 F641719 q641720 q641721 qs641722 qb641723 bs641724 p641725 p641726 f641727 n641728) gNA := by
  refine CtA_ofF hl0 (by decide +kernel) (Nat.le_of_ble_eq_true rfl) ?_
  have bp641725 := gB_any p641725
  refine G_aload_n 0 dr_cJ0_indexOf_2f485_0 rfl ?_
  refine Gw_callVk (As := []) (gV_ok D I) (cp_640849_String_coder l hl0 D I P641718 F641719 qs641722 qb641723 bs641724 hbs641724 nbs641724 lbs641724) dr_cJ0_indexOf_2f485_1 ⟨wr_3_61, wr_1_21, wr_3_64, by decide, rfl, (Nat.le_of_ble_eq_true rfl), (Nat.le_of_ble_eq_true rfl)⟩ wr_3_62 wr_3_63 (fun _ _ _ h => (hbs641724 _ _ _ h).1) (show 0 + 0 ≤ 0 by first | omega | decide) (show 0 + 0 ≤ 0 by first | omega | decide) (Nat.le_of_ble_eq_true rfl) (fun r641735 w641736 dc641732 ds641733 hp641734 => ?_) (fun _ _ _ _ _ z => z.elim)
  obtain ⟨rfl, rfl, hdc, hds⟩ := hp641734
  change G _ _ _ _ _ _ _ (.int 0 :: _) _ _ _
  refine G_widen (cs' := 0) (sl' := 0) (by omega) (by omega) ?_
  refine G_istore_n (L' := [(2, .int 0), (0, .ref qs641722), (1, .ref q641720)]) dr_cJ0_indexOf_2f485_4 (Nat.le_of_ble_eq_true rfl) rfl ?_
  refine G_iload_n 0 dr_cJ0_indexOf_2f485_5 rfl ?_
  refine G_aload_n 2 dr_cJ0_indexOf_2f485_6 rfl ?_
  refine Gw_callV (As := []) (gV_ok D I) (cp_640638_String_coder l hl0 D I P641718 F641719 q641720 q641721 p641725 p641726 f641727 n641728 hmq641720 hmq641721 heq641720 heq641721 bp641726 bf641727 (by have qa0 : Int32.toInt 0 = 0 := (by decide); omega)) dr_cJ0_indexOf_2f485_7 ⟨wr_3_61, wr_1_21, wr_3_64, by decide, rfl, (Nat.le_of_ble_eq_true rfl), (Nat.le_of_ble_eq_true rfl)⟩ wr_3_62 wr_3_63 hmq641720 heq641720 rfl (show 0 + 0 ≤ 0 by first | omega | decide) (show 0 + 0 ≤ 0 by first | omega | decide) (Nat.le_of_ble_eq_true rfl) (fun r641740 w641741 dc641737 ds641738 hp641739 => ?_) (fun _ _ _ _ _ z => z.elim)
  obtain ⟨rfl, rfl, hdc, hds⟩ := hp641739
  change G _ _ _ _ _ _ _ (.int 0 :: _) _ _ _
  refine G_widen (cs' := 0) (sl' := 0) (by omega) (by omega) ?_
  refine G_icmp_ne 46 dr_cJ0_indexOf_2f485_10 (by decide +kernel) (fun hc => absurd hc (by decide)) (fun _ => ?_)
  refine G_aload_n 1 dr_cJ0_indexOf_2f485_13 rfl ?_
  refine Gw_callVk (As := []) (gV_ok D I) (cp_641688_String_isLatin1 l hl0 D I P641718 F641719 qs641722 qb641723 bs641724 hbs641724 nbs641724 lbs641724) dr_cJ0_indexOf_2f485_14 ⟨wr_3_71, wr_1_21, wr_3_74, by decide, rfl, (Nat.le_of_ble_eq_true rfl), (Nat.le_of_ble_eq_true rfl)⟩ wr_3_72 wr_3_73 (fun _ _ _ h => (hbs641724 _ _ _ h).1) (show 0 + 0 ≤ 0 by first | omega | decide) (show 0 + 0 ≤ 0 by first | omega | decide) (Nat.le_of_ble_eq_true rfl) (fun r641745 w641746 dc641742 ds641743 hp641744 => ?_) (fun _ _ _ _ _ z => z.elim)
  obtain ⟨rfl, rfl, hdc, hds⟩ := hp641744
  change G _ _ _ _ _ _ _ (.int 1 :: _) _ _ _
  refine G_widen (cs' := 0) (sl' := 0) (by omega) (by omega) ?_
  refine G_if_eq 34 dr_cJ0_indexOf_2f485_17 (by decide +kernel) (fun hc => absurd hc (by decide)) (fun _ => ?_)
  refine G_aload_n 1 dr_cJ0_indexOf_2f485_20 rfl ?_
  refine G_kget dr_cJ0_indexOf_2f485_21 wr_8_182 (fun _ _ _ h => (hbs641724 _ _ _ h).2.2.1) ?_
  refine G_aload_n 2 dr_cJ0_indexOf_2f485_24 rfl ?_
  refine Gp_get 0 hmq641720 heq641720 dr_cJ0_indexOf_2f485_25 (gk_J0 D I) (Nat.le_of_ble_eq_true rfl) wr_8_182 rfl ?_
  refine Gw_callS (As := [.ref qb641723, .ref q641721]) (gV_ok D I) (cp_641756_StringLatin1_indexOf l hl0 D I P641718 F641719 q641721 qb641723 bs641724 f641727 n641728 hmq641721 heq641721 (fun _ _ _ h => (hbs641724 _ _ _ h).2.2.2) (by omega) lbs641724 bf641727 (by have qa0 : Int32.toInt 0 = 0 := (by decide); omega) (by have qa0 : Int32.toInt 0 = 0 := (by decide); omega)) dr_cJ0_indexOf_2f485_28 ⟨wr_8_200, wr_1_28, wr_8_202, by decide, rfl, (Nat.le_of_ble_eq_true rfl), (Nat.le_of_ble_eq_true rfl)⟩ wr_8_201 (show 0 + 0 ≤ 0 by first | omega | decide) (show 0 + 0 ≤ 0 by first | omega | decide) (Nat.le_of_ble_eq_true rfl) (fun r648777 w648778 dc648774 ds648775 hp648776 => ?_) (fun _ _ _ _ _ z => z.elim)
  obtain ⟨o648779, rfl, rfl, hdc, hds, bo648779, x648780, x648781⟩ := hp648776
  change G _ _ _ _ _ _ _ (.int o648779 :: _) _ _ _
  refine G_widen (cs' := 0) (sl' := 0) (by omega) (by omega) ?_
  refine G_goto 45 dr_cJ0_indexOf_2f485_31 (by decide +kernel) ?_
  exact G_iretA dr_cJ0_indexOf_2f485_45 rfl (Nat.le_of_ble_eq_true rfl) (Nat.le_of_ble_eq_true rfl) ⟨o648779, rfl, rfl, (Nat.le_of_ble_eq_true rfl), (Nat.le_of_ble_eq_true rfl), bo648779, (by have qa0 : Int32.toInt 0 = 0 := (by decide); omega), x648781⟩
abbrev ky_648822_StringLatin1_canEncode : gKey := (cJ1_canEncode_9a6ad, 1, "java/lang/StringLatin1", (some FieldType.boolean), [], "canEncode", fun _ _ => True)
def pp_648822_StringLatin1_canEncode (D : va_G) (I : FieldType → ClassId) (P648819 : List Nat) (F648820 : Nat → va_E) (p648821 : Int32) : Option Value → va_W → Nat → Nat → Prop := fun r w dc ds => (r = some (.int 0) ∧ w = va_pl P648819 F648820 ∧ dc ≤ 0 ∧ ds ≤ 0 ∧ p648821.toInt < 0) ∨ (r = some (.int 0) ∧ w = va_pl P648819 F648820 ∧ dc ≤ 0 ∧ ds ≤ 0 ∧ 0 ≤ p648821.toInt ∧ 255 < p648821.toInt) ∨ (r = some (.int 1) ∧ w = va_pl P648819 F648820 ∧ dc ≤ 0 ∧ ds ≤ 0 ∧ 0 ≤ p648821.toInt ∧ p648821.toInt ≤ 255)
set_option maxRecDepth 100000 in
set_option maxHeartbeats 4000000 in
theorem cp_648822_StringLatin1_canEncode (l : Launch) (hl0 : l.stackTraces = false) (D : va_G) (I : FieldType → ClassId) (P648819 : List Nat) (F648820 : Nat → va_E) (p648821 : Int32)  : CtA (gV D I) l yJ1_canEncode_9a6ad cJ1_canEncode_9a6ad 1 (some FieldType.boolean) 0 0 0 0 [.int p648821] (va_pl P648819 F648820) (pp_648822_StringLatin1_canEncode D I P648819 F648820 p648821) gNA := by
  refine CtA_ofF hl0 (by decide +kernel) (Nat.le_of_ble_eq_true rfl) ?_
  have bp648821 := gB_any p648821
  refine G_iload_n 0 dr_cJ1_canEncode_9a6ad_0 rfl ?_
  refine G_if_lt 15 dr_cJ1_canEncode_9a6ad_1 (by decide +kernel) (fun hc648823 => ?_) (fun hc648823 => ?_)
  · have r648824 : p648821.toInt < 0 := gj_lt hc648823 (show Int32.toInt 0 = 0 by decide)
    have bp648821' : gB p648821 (-2147483648) (-1) := ⟨by omega, by omega⟩
    refine G_iconst 0 dr_cJ1_canEncode_9a6ad_15 (by decide +kernel) ?_
    exact G_zretA FieldType.boolean dr_cJ1_canEncode_9a6ad_16 rfl rfl (Nat.le_of_ble_eq_true rfl) (Nat.le_of_ble_eq_true rfl) (Or.inl ⟨rfl, rfl, (Nat.le_of_ble_eq_true rfl), (Nat.le_of_ble_eq_true rfl), r648824⟩)
  · have r648825 : 0 ≤ p648821.toInt := gj_nlt hc648823 (show Int32.toInt 0 = 0 by decide)
    have bp648821' : gB p648821 0 2147483647 := ⟨by omega, by omega⟩
    refine G_iload_n 0 dr_cJ1_canEncode_9a6ad_4 rfl ?_
    refine G_sipush 255 dr_cJ1_canEncode_9a6ad_5 (by decide +kernel) ?_
    refine G_icmp_gt 15 dr_cJ1_canEncode_9a6ad_8 (by decide +kernel) (fun hc648826 => ?_) (fun hc648826 => ?_)
    · have r648827 : 255 < p648821.toInt := gj_ltL hc648826 (show Int32.toInt 255 = 255 by decide)
      have bp648821'' : gB p648821 256 2147483647 := ⟨by omega, by omega⟩
      refine G_iconst 0 dr_cJ1_canEncode_9a6ad_15 (by decide +kernel) ?_
      exact G_zretA FieldType.boolean dr_cJ1_canEncode_9a6ad_16 rfl rfl (Nat.le_of_ble_eq_true rfl) (Nat.le_of_ble_eq_true rfl) (Or.inr (Or.inl ⟨rfl, rfl, (Nat.le_of_ble_eq_true rfl), (Nat.le_of_ble_eq_true rfl), r648825, r648827⟩))
    · have r648828 : p648821.toInt ≤ 255 := gj_nltL hc648826 (show Int32.toInt 255 = 255 by decide)
      have bp648821'' : gB p648821 0 255 := ⟨by omega, by omega⟩
      refine G_iconst 1 dr_cJ1_canEncode_9a6ad_11 (by decide +kernel) ?_
      refine G_goto 16 dr_cJ1_canEncode_9a6ad_12 (by decide +kernel) ?_
      exact G_zretA FieldType.boolean dr_cJ1_canEncode_9a6ad_16 rfl rfl (Nat.le_of_ble_eq_true rfl) (Nat.le_of_ble_eq_true rfl) (Or.inr (Or.inr (⟨rfl, rfl, (Nat.le_of_ble_eq_true rfl), (Nat.le_of_ble_eq_true rfl), r648825, r648828⟩)))
abbrev ky_648853_StringLatin1_indexOfChar : gKey := (cJ1_indexOfChar_4cfef, 6, "java/lang/StringLatin1", (some FieldType.int), [], "indexOfChar", fun _ _ => True)
def pp_648853_StringLatin1_indexOfChar (D : va_G) (I : FieldType → ClassId) (P648845 : List Nat) (F648846 : Nat → va_E) (qs648847 : Nat) (bs648848 : List Int32) (p648849 : Int32) (p648850 : Int32) (p648851 : Int32) : Option Value → va_W → Nat → Nat → Prop := fun r w dc ds => ∃ (o648881 : Int32), r = some (.int o648881) ∧ w = va_pl P648845 F648846 ∧ dc ≤ 0 ∧ ds ≤ 0 ∧ gB o648881 (-1) 65534
set_option maxRecDepth 100000 in
set_option maxHeartbeats 4000000 in
theorem cp_648853_StringLatin1_indexOfChar (l : Launch) (hl0 : l.stackTraces = false) (D : va_G) (I : FieldType → ClassId) (P648845 : List Nat) (F648846 : Nat → va_E) (qs648847 : Nat) (bs648848 : List Int32) (p648849 : Int32) (p648850 : Int32) (p648851 : Int32) (hbs648848 : ∀ A s H, (gV D I).2.2.2.1 A s H → va_T .byte qs648847 bs648848.length (fun j => .int (bs648848.getD j 0)) A s H) (nbs648848 : (bs648848.length : Int) ≤ 65535) (lbs648848 : gLB bs648848) (bp648849 : gB p648849 0 65535) (bp648850 : gB p648850 0 65535) (bp648851 : gB p648851 0 65535) (x648852 : p648851.toInt ≤ (bs648848.length : Int)) : CtA (gV D I) l yJ1_indexOfChar_4cfef cJ1_indexOfChar_4cfef 6 (some FieldType.int) 0 0 0 0 [.ref qs648847, .int p648849, .int p648850, .int p648851] (va_pl P648845 F648846) (pp_648853_StringLatin1_indexOfChar D I P648845 F648846 qs648847 bs648848 p648849 p648850 p648851) gNA := by
  refine CtA_ofF hl0 (by decide +kernel) (Nat.le_of_ble_eq_true rfl) ?_
  refine G_iload_n 1 dr_cJ1_indexOfChar_4cfef_0 rfl ?_
  refine G_i2b dr_cJ1_indexOfChar_4cfef_1 (G_nam fun z648854 hz648854 => ?_)
  have bz648854 : gB z648854 (-128) 127 := gB_i2b hz648854
  refine G_istore (L' := [(4, .int z648854), (0, .ref qs648847), (1, .int p648849), (2, .int p648850), (3, .int p648851)]) dr_cJ1_indexOfChar_4cfef_2 (Nat.le_of_ble_eq_true rfl) rfl ?_
  refine G_iload_n 3 dr_cJ1_indexOfChar_4cfef_4 rfl ?_
  refine G_istore (L' := [(5, .int p648850), (4, .int z648854), (0, .ref qs648847), (1, .int p648849), (2, .int p648850), (3, .int p648851)]) dr_cJ1_indexOfChar_4cfef_5 (Nat.le_of_ble_eq_true rfl) rfl ?_
  have hlp7_648872 : ∀ (n7_648872 : Nat) (g648872 : Int32), gB g648872 0 65535 → ((65536 : Int) - g648872.toInt).toNat < n7_648872 → G (gV D I) l (gRm 0 0 0 0) (gMA (gV D I) (pp_648853_StringLatin1_indexOfChar D I P648845 F648846 qs648847 bs648848 p648849 p648850 p648851) gNA 0 0) ky_648853_StringLatin1_indexOfChar 7 [(5, .int g648872), (4, .int z648854), (0, .ref qs648847), (1, .int p648849), (2, .int p648850), (3, .int p648851)] [] (va_pl P648845 F648846) 0 0 := by
    intro n7_648872
    induction n7_648872 with
    | zero => intro g648872 bg648872 hm7_648872; exact absurd hm7_648872 (Nat.not_lt_zero _)
    | succ n7_648872 ih7_648872 =>
      intro g648872 bg648872 hm7_648872
      refine G_iload 0 dr_cJ1_indexOfChar_4cfef_7 rfl ?_
      refine G_iload_n 5 dr_cJ1_indexOfChar_4cfef_9 rfl ?_
      refine G_icmp_ge 31 dr_cJ1_indexOfChar_4cfef_10 (by decide +kernel) (fun hc648873 => ?_) (fun hc648873 => ?_)
      · have r648874 : p648851.toInt ≤ g648872.toInt := gC_le hc648873
        refine G_iconst (-1) dr_cJ1_indexOfChar_4cfef_31 (by decide +kernel) ?_
        exact G_iretA dr_cJ1_indexOfChar_4cfef_32 rfl (Nat.le_of_ble_eq_true rfl) (Nat.le_of_ble_eq_true rfl) ⟨(-1), rfl, rfl, (Nat.le_of_ble_eq_true rfl), (Nat.le_of_ble_eq_true rfl), (gB_w (gBl (show Int32.toInt (-1) = (-1) by decide)) (by decide) (by decide))⟩
      · have r648875 : g648872.toInt < p648851.toInt := gC_nle hc648873
        have bg648872' : gB g648872 0 65534 := ⟨by omega, by omega⟩
        have bp648851' : gB p648851 1 65535 := ⟨by omega, by omega⟩
        refine G_aload_n 2 dr_cJ1_indexOfChar_4cfef_13 rfl ?_
        refine G_iload 0 dr_cJ1_indexOfChar_4cfef_14 rfl ?_
        refine G_kbald (f := fun j => bs648848.getD j 0) dr_cJ1_indexOfChar_4cfef_16 hbs648848 (gB_inr (by omega) (by omega)) (G_nam fun z648876 hz648876 => ?_)
        have bz648876 : gB z648876 (-2147483648) 2147483647 := gB_any z648876
        refine G_iload 1 dr_cJ1_indexOfChar_4cfef_17 rfl ?_
        refine G_icmp_ne 25 dr_cJ1_indexOfChar_4cfef_19 (by decide +kernel) (fun hc648877 => ?_) (fun hc648877 => ?_)
        · have r648878 : z648876.toInt ≠ z648854.toInt := gC_ne hc648877
          obtain ⟨z648879, hz648879⟩ : ∃ z : Int32, z = g648872 + Int32.ofInt 1 := ⟨_, rfl⟩
          have ez648879 : z648879.toInt = g648872.toInt + 1 := gI_inc hz648879 (by decide) bg648872' (by decide) (by decide)
          have bz648879 : gB z648879 1 65535 := ⟨by omega, by omega⟩
          refine G_iinc (L' := [(5, .int z648879), (4, .int z648854), (0, .ref qs648847), (1, .int p648849), (2, .int p648850), (3, .int p648851)]) z648879 0 dr_cJ1_indexOfChar_4cfef_25 rfl hz648879.symm (Nat.le_of_ble_eq_true rfl) rfl ?_
          refine G_goto 7 dr_cJ1_indexOfChar_4cfef_28 (by decide +kernel) ?_
          exact ih7_648872 z648879 (gB_w bz648879 (by decide) (by decide)) (by omega)
        · have r648880 : z648876.toInt = z648854.toInt := gC_eq hc648877
          have bz648876' : gB z648876 (-128) 127 := ⟨by omega, by omega⟩
          refine G_iload 0 dr_cJ1_indexOfChar_4cfef_22 rfl ?_
          exact G_iretA dr_cJ1_indexOfChar_4cfef_24 rfl (Nat.le_of_ble_eq_true rfl) (Nat.le_of_ble_eq_true rfl) ⟨g648872, rfl, rfl, (Nat.le_of_ble_eq_true rfl), (Nat.le_of_ble_eq_true rfl), (gB_w bg648872' (by decide) (by decide))⟩
  exact hlp7_648872 (((65536 : Int) - p648850.toInt).toNat + 1) p648850 bp648850 (Nat.lt_succ_self _)
abbrev ky_648818_StringLatin1_indexOf : gKey := (cJ1_indexOf_4cfef, 4, "java/lang/StringLatin1", (some FieldType.int), [], "indexOf", fun _ _ => True)
def pp_648818_StringLatin1_indexOf (D : va_G) (I : FieldType → ClassId) (P648810 : List Nat) (F648811 : Nat → va_E) (qs648812 : Nat) (bs648813 : List Int32) (p648814 : Int32) (p648815 : Int32) (p648816 : Int32) : Option Value → va_W → Nat → Nat → Prop := fun r w dc ds => ∃ (o648889 : Int32), r = some (.int o648889) ∧ w = va_pl P648810 F648811 ∧ dc ≤ 0 ∧ ds ≤ 0 ∧ gB o648889 (-1) 65534
set_option maxRecDepth 100000 in
set_option maxHeartbeats 4000000 in
theorem cp_648818_StringLatin1_indexOf (l : Launch) (hl0 : l.stackTraces = false) (D : va_G) (I : FieldType → ClassId) (P648810 : List Nat) (F648811 : Nat → va_E) (qs648812 : Nat) (bs648813 : List Int32) (p648814 : Int32) (p648815 : Int32) (p648816 : Int32) (hbs648813 : ∀ A s H, (gV D I).2.2.2.1 A s H → va_T .byte qs648812 bs648813.length (fun j => .int (bs648813.getD j 0)) A s H) (nbs648813 : (bs648813.length : Int) ≤ 65535) (lbs648813 : gLB bs648813) (bp648814 : gB p648814 0 65535) (bp648815 : gB p648815 0 1) (bp648816 : gB p648816 0 65535) (x648817 : p648816.toInt = (bs648813.length : Int)) : CtA (gV D I) l yJ1_indexOf_4cfef cJ1_indexOf_4cfef 4 (some FieldType.int) 1 25 0 0 [.ref qs648812, .int p648814, .int p648815, .int p648816] (va_pl P648810 F648811) (pp_648818_StringLatin1_indexOf D I P648810 F648811 qs648812 bs648813 p648814 p648815 p648816) gNA := by
  refine CtA_ofF hl0 (by decide +kernel) (Nat.le_of_ble_eq_true rfl) ?_
  refine G_iload_n 1 dr_cJ1_indexOf_4cfef_0 rfl ?_
  refine Gw_callS (As := [.int p648814]) (gV_ok D I) (cp_648822_StringLatin1_canEncode l hl0 D I P648810 F648811 p648814 ) dr_cJ1_indexOf_4cfef_1 ⟨wr_9_2, wr_1_28, wr_9_4, by decide, rfl, (Nat.le_of_ble_eq_true rfl), (Nat.le_of_ble_eq_true rfl)⟩ wr_9_3 (show 0 + 0 ≤ 0 by first | omega | decide) (show 0 + 0 ≤ 0 by first | omega | decide) (Nat.le_of_ble_eq_true rfl) (fun r648832 w648833 dc648829 ds648830 hp648831 => ?_) (fun _ _ _ _ _ z => z.elim)
  rcases hp648831 with ⟨rfl, rfl, hdc, hds, r648834⟩ | ⟨rfl, rfl, hdc, hds, r648835, r648836⟩ | ⟨rfl, rfl, hdc, hds, r648837, r648838⟩
  · exact absurd (show False by omega) not_false
  · have bp648814' : gB p648814 256 65535 := ⟨by omega, by omega⟩
    change G _ _ _ _ _ _ _ (.int 0 :: _) _ _ _
    refine G_widen (cs' := 0) (sl' := 0) (by omega) (by omega) ?_
    refine G_if_ne 9 dr_cJ1_indexOf_4cfef_4 (by decide +kernel) (fun hc => absurd hc (by decide)) (fun _ => ?_)
    refine G_iconst (-1) dr_cJ1_indexOf_4cfef_7 (by decide +kernel) ?_
    exact G_iretA dr_cJ1_indexOf_4cfef_8 rfl (Nat.le_of_ble_eq_true rfl) (Nat.le_of_ble_eq_true rfl) ⟨(-1), rfl, rfl, (Nat.le_of_ble_eq_true rfl), (Nat.le_of_ble_eq_true rfl), (gB_w (gBl (show Int32.toInt (-1) = (-1) by decide)) (by decide) (by decide))⟩
  · have bp648814' : gB p648814 0 255 := ⟨by omega, by omega⟩
    change G _ _ _ _ _ _ _ (.int 1 :: _) _ _ _
    refine G_widen (cs' := 0) (sl' := 0) (by omega) (by omega) ?_
    refine G_if_ne 9 dr_cJ1_indexOf_4cfef_4 (by decide +kernel) (fun _ => ?_) (fun hc => absurd hc (by decide))
    refine G_iload_n 2 dr_cJ1_indexOf_4cfef_9 rfl ?_
    refine G_iconst 0 dr_cJ1_indexOf_4cfef_10 (by decide +kernel) ?_
    refine G_mmax dr_cJ1_indexOf_4cfef_11 wr_9_5 wr_1_140 wr_1_6 wr_1_141 (Nat.le_of_ble_eq_true rfl) (Nat.le_of_ble_eq_true rfl) (show 0 ≤ 0 by first | omega | decide) (show 0 ≤ 0 by first | omega | decide) (G_nam fun z648840 hz648840 => ?_)
    have ez648840 : p648815.toInt ≤ z648840.toInt ∧ 0 ≤ z648840.toInt ∧ (z648840.toInt = p648815.toInt ∨ z648840.toInt = 0) := by have := gI_max hz648840; rw [show Int32.toInt 0 = 0 from by decide] at this; omega
    have bz648840 : gB z648840 0 1 := ⟨by omega, by omega⟩
    refine G_istore_n (L' := [(2, .int z648840), (0, .ref qs648812), (1, .int p648814), (3, .int p648816)]) dr_cJ1_indexOf_4cfef_14 (Nat.le_of_ble_eq_true rfl) rfl ?_
    refine G_iload_n 3 dr_cJ1_indexOf_4cfef_15 rfl ?_
    refine G_aload_n 1 dr_cJ1_indexOf_4cfef_16 rfl ?_
    refine G_klen dr_cJ1_indexOf_4cfef_17 hbs648813 (G_nam fun z648841 hz648841 => ?_)
    have ez648841 : z648841.toInt = (bs648813.length : Int) := gI_ofN hz648841 nbs648813
    have bz648841 : gB z648841 0 65535 := ⟨by omega, by omega⟩
    refine G_mmin dr_cJ1_indexOf_4cfef_18 wr_9_6 wr_3_227 wr_1_6 wr_3_228 (Nat.le_of_ble_eq_true rfl) (Nat.le_of_ble_eq_true rfl) (show 0 ≤ 0 by first | omega | decide) (show 0 ≤ 0 by first | omega | decide) (G_nam fun z648842 hz648842 => ?_)
    have ez648842 : p648816.toInt ≥ z648842.toInt ∧ z648841.toInt ≥ z648842.toInt ∧ (z648842.toInt = p648816.toInt ∨ z648842.toInt = z648841.toInt) := by have := gI_min hz648842; omega
    have bz648842 : gB z648842 0 65535 := ⟨by omega, by omega⟩
    refine G_istore_n (L' := [(3, .int z648842), (2, .int z648840), (0, .ref qs648812), (1, .int p648814)]) dr_cJ1_indexOf_4cfef_21 (Nat.le_of_ble_eq_true rfl) rfl ?_
    refine G_iload_n 1 dr_cJ1_indexOf_4cfef_22 rfl ?_
    refine G_iload_n 0 dr_cJ1_indexOf_4cfef_23 rfl ?_
    refine G_icmp_lt 29 dr_cJ1_indexOf_4cfef_24 (by decide +kernel) (fun hc648843 => ?_) (fun hc648843 => ?_)
    · have r648844 : z648840.toInt < z648842.toInt := gC_lt hc648843
      have bz648842' : gB z648842 1 65535 := ⟨by omega, by omega⟩
      refine G_aload_n 2 dr_cJ1_indexOf_4cfef_29 rfl ?_
      refine G_iload_n 3 dr_cJ1_indexOf_4cfef_30 rfl ?_
      refine G_iload_n 1 dr_cJ1_indexOf_4cfef_31 rfl ?_
      refine G_iload_n 0 dr_cJ1_indexOf_4cfef_32 rfl ?_
      refine Gw_callS (As := [.ref qs648812, .int p648814, .int z648840, .int z648842]) (gV_ok D I) (cp_648853_StringLatin1_indexOfChar l hl0 D I P648810 F648811 qs648812 bs648813 p648814 z648840 z648842 hbs648813 nbs648813 lbs648813 (gB_w bp648814' (by decide) (by decide)) (gB_w bz648840 (by decide) (by decide)) (gB_w bz648842' (by decide) (by decide)) (by omega)) dr_cJ1_indexOf_4cfef_33 ⟨wr_9_7, wr_1_28, wr_9_9, by decide, rfl, (Nat.le_of_ble_eq_true rfl), (Nat.le_of_ble_eq_true rfl)⟩ wr_9_8 (show 0 + 0 ≤ 0 by first | omega | decide) (show 0 + 0 ≤ 0 by first | omega | decide) (Nat.le_of_ble_eq_true rfl) (fun r648885 w648886 dc648882 ds648883 hp648884 => ?_) (fun _ _ _ _ _ z => z.elim)
      obtain ⟨o648887, rfl, rfl, hdc, hds, bo648887⟩ := hp648884
      change G _ _ _ _ _ _ _ (.int o648887 :: _) _ _ _
      refine G_widen (cs' := 0) (sl' := 0) (by omega) (by omega) ?_
      exact G_iretA dr_cJ1_indexOf_4cfef_36 rfl (Nat.le_of_ble_eq_true rfl) (Nat.le_of_ble_eq_true rfl) ⟨o648887, rfl, rfl, (Nat.le_of_ble_eq_true rfl), (Nat.le_of_ble_eq_true rfl), bo648887⟩
    · have r648888 : z648842.toInt ≤ z648840.toInt := gC_nlt hc648843
      have bz648842' : gB z648842 0 1 := ⟨by omega, by omega⟩
      refine G_iconst (-1) dr_cJ1_indexOf_4cfef_27 (by decide +kernel) ?_
      exact G_iretA dr_cJ1_indexOf_4cfef_28 rfl (Nat.le_of_ble_eq_true rfl) (Nat.le_of_ble_eq_true rfl) ⟨(-1), rfl, rfl, (Nat.le_of_ble_eq_true rfl), (Nat.le_of_ble_eq_true rfl), (gB_w (gBl (show Int32.toInt (-1) = (-1) by decide)) (by decide) (by decide))⟩
abbrev ky_648797_String_indexOf : gKey := (cJ0_indexOf_7cf53, 3, "java/lang/String", (some FieldType.int), [], "indexOf", fun _ _ => True)
def pp_648797_String_indexOf (D : va_G) (I : FieldType → ClassId) (P648790 : List Nat) (F648791 : Nat → va_E) (qs648792 : Nat) (qb648793 : Nat) (bs648794 : List Int32) (p648795 : Int32) (p648796 : Int32) : Option Value → va_W → Nat → Nat → Prop := fun r w dc ds => ∃ (o648896 : Int32), r = some (.int o648896) ∧ w = va_pl P648790 F648791 ∧ dc ≤ 0 ∧ ds ≤ 0 ∧ gB o648896 (-1) 65534
set_option maxRecDepth 100000 in
set_option maxHeartbeats 4000000 in
theorem cp_648797_String_indexOf (l : Launch) (hl0 : l.stackTraces = false) (D : va_G) (I : FieldType → ClassId) (P648790 : List Nat) (F648791 : Nat → va_E) (qs648792 : Nat) (qb648793 : Nat) (bs648794 : List Int32) (p648795 : Int32) (p648796 : Int32) (hbs648794 : ∀ A s H, (gV D I).2.2.2.1 A s H → gSC qs648792 qb648793 bs648794 A s H) (nbs648794 : (bs648794.length : Int) ≤ 65535) (lbs648794 : gLB bs648794) (bp648795 : gB p648795 0 65535) (bp648796 : gB p648796 0 1) : CtA (gV D I) l yJ0_indexOf_7cf53 cJ0_indexOf_7cf53 3 (some FieldType.int) 2 48 0 0 [.ref qs648792, .int p648795, .int p648796] (va_pl P648790 F648791) (pp_648797_String_indexOf D I P648790 F648791 qs648792 qb648793 bs648794 p648795 p648796) gNA := by
  refine CtA_ofF hl0 (by decide +kernel) (Nat.le_of_ble_eq_true rfl) ?_
  refine G_aload_n 0 dr_cJ0_indexOf_7cf53_0 rfl ?_
  refine Gw_callVk (As := []) (gV_ok D I) (cp_641688_String_isLatin1 l hl0 D I P648790 F648791 qs648792 qb648793 bs648794 hbs648794 nbs648794 lbs648794) dr_cJ0_indexOf_7cf53_1 ⟨wr_3_71, wr_1_21, wr_3_74, by decide, rfl, (Nat.le_of_ble_eq_true rfl), (Nat.le_of_ble_eq_true rfl)⟩ wr_3_72 wr_3_73 (fun _ _ _ h => (hbs648794 _ _ _ h).1) (show 0 + 0 ≤ 0 by first | omega | decide) (show 0 + 0 ≤ 0 by first | omega | decide) (Nat.le_of_ble_eq_true rfl) (fun r648801 w648802 dc648798 ds648799 hp648800 => ?_) (fun _ _ _ _ _ z => z.elim)
  obtain ⟨rfl, rfl, hdc, hds⟩ := hp648800
  change G _ _ _ _ _ _ _ (.int 1 :: _) _ _ _
  refine G_widen (cs' := 0) (sl' := 0) (by omega) (by omega) ?_
  refine G_if_eq 23 dr_cJ0_indexOf_7cf53_4 (by decide +kernel) (fun hc => absurd hc (by decide)) (fun _ => ?_)
  refine G_aload_n 0 dr_cJ0_indexOf_7cf53_7 rfl ?_
  refine G_kget dr_cJ0_indexOf_7cf53_8 wr_8_182 (fun _ _ _ h => (hbs648794 _ _ _ h).2.2.1) ?_
  refine G_iload_n 1 dr_cJ0_indexOf_7cf53_11 rfl ?_
  refine G_iload_n 2 dr_cJ0_indexOf_7cf53_12 rfl ?_
  refine G_aload_n 0 dr_cJ0_indexOf_7cf53_13 rfl ?_
  refine Gw_callVk (As := []) (gV_ok D I) (cp_640842_String_length l hl0 D I P648790 F648791 qs648792 qb648793 bs648794 hbs648794 nbs648794 lbs648794) dr_cJ0_indexOf_7cf53_14 ⟨wr_8_238, wr_1_21, wr_3_60, by decide, rfl, (Nat.le_of_ble_eq_true rfl), (Nat.le_of_ble_eq_true rfl)⟩ wr_3_58 wr_3_59 (fun _ _ _ h => (hbs648794 _ _ _ h).1) (show 0 + 0 ≤ 0 by first | omega | decide) (show 0 + 0 ≤ 0 by first | omega | decide) (Nat.le_of_ble_eq_true rfl) (fun r648806 w648807 dc648803 ds648804 hp648805 => ?_) (fun _ _ _ _ _ z => z.elim)
  obtain ⟨o648808, rfl, rfl, hdc, hds, bo648808, x648809⟩ := hp648805
  change G _ _ _ _ _ _ _ (.int o648808 :: _) _ _ _
  refine G_widen (cs' := 0) (sl' := 0) (by omega) (by omega) ?_
  refine Gw_callS (As := [.ref qb648793, .int p648795, .int p648796, .int o648808]) (gV_ok D I) (cp_648818_StringLatin1_indexOf l hl0 D I P648790 F648791 qb648793 bs648794 p648795 p648796 o648808 (fun _ _ _ h => (hbs648794 _ _ _ h).2.2.2) (by omega) lbs648794 bp648795 bp648796 bo648808 (by omega)) dr_cJ0_indexOf_7cf53_17 ⟨wr_8_239, wr_1_28, wr_9_1, by decide, rfl, (Nat.le_of_ble_eq_true rfl), (Nat.le_of_ble_eq_true rfl)⟩ wr_9_0 (show 0 + 0 ≤ 0 by first | omega | decide) (show 0 + 0 ≤ 0 by first | omega | decide) (Nat.le_of_ble_eq_true rfl) (fun r648893 w648894 dc648890 ds648891 hp648892 => ?_) (fun _ _ _ _ _ z => z.elim)
  obtain ⟨o648895, rfl, rfl, hdc, hds, bo648895⟩ := hp648892
  change G _ _ _ _ _ _ _ (.int o648895 :: _) _ _ _
  refine G_widen (cs' := 0) (sl' := 0) (by omega) (by omega) ?_
  refine G_goto 36 dr_cJ0_indexOf_7cf53_20 (by decide +kernel) ?_
  exact G_iretA dr_cJ0_indexOf_7cf53_36 rfl (Nat.le_of_ble_eq_true rfl) (Nat.le_of_ble_eq_true rfl) ⟨o648895, rfl, rfl, (Nat.le_of_ble_eq_true rfl), (Nat.le_of_ble_eq_true rfl), bo648895⟩
abbrev ky_648789_String_indexOf : gKey := (cJ0_indexOf_0f7a4, 2, "java/lang/String", (some FieldType.int), [], "indexOf", fun _ _ => True)
def pp_648789_String_indexOf (D : va_G) (I : FieldType → ClassId) (P648783 : List Nat) (F648784 : Nat → va_E) (qs648785 : Nat) (qb648786 : Nat) (bs648787 : List Int32) (p648788 : Int32) : Option Value → va_W → Nat → Nat → Prop := fun r w dc ds => ∃ (o648903 : Int32), r = some (.int o648903) ∧ w = va_pl P648783 F648784 ∧ dc ≤ 0 ∧ ds ≤ 0 ∧ gB o648903 (-1) 65534
set_option maxRecDepth 100000 in
set_option maxHeartbeats 4000000 in
theorem cp_648789_String_indexOf (l : Launch) (hl0 : l.stackTraces = false) (D : va_G) (I : FieldType → ClassId) (P648783 : List Nat) (F648784 : Nat → va_E) (qs648785 : Nat) (qb648786 : Nat) (bs648787 : List Int32) (p648788 : Int32) (hbs648787 : ∀ A s H, (gV D I).2.2.2.1 A s H → gSC qs648785 qb648786 bs648787 A s H) (nbs648787 : (bs648787.length : Int) ≤ 65535) (lbs648787 : gLB bs648787) (bp648788 : gB p648788 0 65535) : CtA (gV D I) l yJ0_indexOf_0f7a4 cJ0_indexOf_0f7a4 2 (some FieldType.int) 3 70 0 0 [.ref qs648785, .int p648788] (va_pl P648783 F648784) (pp_648789_String_indexOf D I P648783 F648784 qs648785 qb648786 bs648787 p648788) gNA := by
  refine CtA_ofF hl0 (by decide +kernel) (Nat.le_of_ble_eq_true rfl) ?_
  refine G_aload_n 0 dr_cJ0_indexOf_0f7a4_0 rfl ?_
  refine G_iload_n 1 dr_cJ0_indexOf_0f7a4_1 rfl ?_
  refine G_iconst 0 dr_cJ0_indexOf_0f7a4_2 (by decide +kernel) ?_
  refine Gw_callVk (As := [.int p648788, .int 0]) (gV_ok D I) (cp_648797_String_indexOf l hl0 D I P648783 F648784 qs648785 qb648786 bs648787 p648788 0 hbs648787 nbs648787 lbs648787 bp648788 (gB_w (gBl (show Int32.toInt 0 = 0 by decide)) (by decide) (by decide))) dr_cJ0_indexOf_0f7a4_3 ⟨wr_8_234, wr_1_21, wr_8_237, by decide, rfl, (Nat.le_of_ble_eq_true rfl), (Nat.le_of_ble_eq_true rfl)⟩ wr_8_235 wr_8_236 (fun _ _ _ h => (hbs648787 _ _ _ h).1) (show 0 + 0 ≤ 0 by first | omega | decide) (show 0 + 0 ≤ 0 by first | omega | decide) (Nat.le_of_ble_eq_true rfl) (fun r648900 w648901 dc648897 ds648898 hp648899 => ?_) (fun _ _ _ _ _ z => z.elim)
  obtain ⟨o648902, rfl, rfl, hdc, hds, bo648902⟩ := hp648899
  change G _ _ _ _ _ _ _ (.int o648902 :: _) _ _ _
  refine G_widen (cs' := 0) (sl' := 0) (by omega) (by omega) ?_
  exact G_iretA dr_cJ0_indexOf_0f7a4_6 rfl (Nat.le_of_ble_eq_true rfl) (Nat.le_of_ble_eq_true rfl) ⟨o648902, rfl, rfl, (Nat.le_of_ble_eq_true rfl), (Nat.le_of_ble_eq_true rfl), bo648902⟩
abbrev ky_648933_Integer_stringSize : gKey := (cJ6_stringSize_0f7a4, 4, "java/lang/Integer", (some FieldType.int), [], "stringSize", fun _ _ => True)
def pp_648933_Integer_stringSize (D : va_G) (I : FieldType → ClassId) (P648930 : List Nat) (F648931 : Nat → va_E) (p648932 : Int32) : Option Value → va_W → Nat → Nat → Prop := fun r w dc ds => ∃ (o649060 : Int32), r = some (.int o649060) ∧ w = va_pl P648930 F648931 ∧ dc ≤ 0 ∧ ds ≤ 0 ∧ gB o649060 1 11 ∧ dgS p648932.toInt o649060.toInt
set_option maxRecDepth 100000 in
set_option maxHeartbeats 4000000 in
theorem cp_648933_Integer_stringSize (l : Launch) (hl0 : l.stackTraces = false) (D : va_G) (I : FieldType → ClassId) (P648930 : List Nat) (F648931 : Nat → va_E) (p648932 : Int32)  : CtA (gV D I) l yJ6_stringSize_0f7a4 cJ6_stringSize_0f7a4 4 (some FieldType.int) 0 0 0 0 [.int p648932] (va_pl P648930 F648931) (pp_648933_Integer_stringSize D I P648930 F648931 p648932) gNA := by
  refine CtA_ofF hl0 (by decide +kernel) (Nat.le_of_ble_eq_true rfl) ?_
  have bp648932 := gB_any p648932
  refine G_iconst 1 dr_cJ6_stringSize_0f7a4_0 (by decide +kernel) ?_
  refine G_istore_n (L' := [(1, .int 1), (0, .int p648932)]) dr_cJ6_stringSize_0f7a4_1 (Nat.le_of_ble_eq_true rfl) rfl ?_
  refine G_iload_n 1 dr_cJ6_stringSize_0f7a4_2 rfl ?_
  refine G_if_lt 11 dr_cJ6_stringSize_0f7a4_3 (by decide +kernel) (fun hc648934 => ?_) (fun hc648934 => ?_)
  · have r648935 : p648932.toInt < 0 := gj_lt hc648934 (show Int32.toInt 0 = 0 by decide)
    have bp648932' : gB p648932 (-2147483648) (-1) := ⟨by omega, by omega⟩
    refine G_bipush (-10) dr_cJ6_stringSize_0f7a4_11 (by decide +kernel) ?_
    refine G_istore_n (L' := [(2, .int (-10)), (1, .int 1), (0, .int p648932)]) dr_cJ6_stringSize_0f7a4_13 (Nat.le_of_ble_eq_true rfl) rfl ?_
    refine G_iconst 1 dr_cJ6_stringSize_0f7a4_14 (by decide +kernel) ?_
    refine G_istore_n (L' := [(3, .int 1), (2, .int (-10)), (1, .int 1), (0, .int p648932)]) dr_cJ6_stringSize_0f7a4_15 (Nat.le_of_ble_eq_true rfl) rfl ?_
    have hlp16_648987 : ∀ (n16_648987 : Nat) (g648985 : Int32) (g648986 : Int32), gB g648985 1 10 → ssI g648985 g648986 → ((11 : Int) - g648985.toInt).toNat < n16_648987 → G (gV D I) l (gRm 0 0 0 0) (gMA (gV D I) (pp_648933_Integer_stringSize D I P648930 F648931 p648932) gNA 0 0) ky_648933_Integer_stringSize 16 [(3, .int g648985), (2, .int g648986), (1, .int 1), (0, .int p648932)] [] (va_pl P648930 F648931) 0 0 := by
      intro n16_648987
      induction n16_648987 with
      | zero => intro g648985 g648986 bg648985 x648987 hm16_648987; exact absurd hm16_648987 (Nat.not_lt_zero _)
      | succ n16_648987 ih16_648987 =>
        intro g648985 g648986 bg648985 x648987 hm16_648987
        have bg648986 := gB_any g648986
        refine G_iload_n 0 dr_cJ6_stringSize_0f7a4_16 rfl ?_
        refine G_bipush 10 dr_cJ6_stringSize_0f7a4_17 (by decide +kernel) ?_
        refine G_icmp_ge 42 dr_cJ6_stringSize_0f7a4_19 (by decide +kernel) (fun hc648988 => ?_) (fun hc648988 => ?_)
        · have r648989 : 10 ≤ g648985.toInt := gj_leL hc648988 (show Int32.toInt 10 = 10 by decide)
          have bg648985' : gB g648985 10 10 := ⟨by omega, by omega⟩
          refine G_bipush 10 dr_cJ6_stringSize_0f7a4_42 (by decide +kernel) ?_
          refine G_iload_n 2 dr_cJ6_stringSize_0f7a4_44 rfl ?_
          refine G_iadd dr_cJ6_stringSize_0f7a4_45 ?_
          refine G_eqi (y := 11) (by decide) ?_
          exact G_iretA dr_cJ6_stringSize_0f7a4_46 rfl (Nat.le_of_ble_eq_true rfl) (Nat.le_of_ble_eq_true rfl) ⟨11, rfl, rfl, (Nat.le_of_ble_eq_true rfl), (Nat.le_of_ble_eq_true rfl), (gB_w (gBl (show Int32.toInt 11 = 11 by decide)) (by decide) (by decide)), (by have q10 : Int32.toInt 10 = 10 := (by decide); have q11 : Int32.toInt 11 = 11 := (by decide); first | exact dgS_p (x := -p648932.toInt) (by omega) rfl (dgB_up (ssI_r x648987 (by omega) (fun _ => by omega)) (by omega) (by omega)) | exact dgS_n (by omega) (by omega) (ssI_r x648987 (by omega) (fun _ => by omega)))⟩
        · have r648990 : g648985.toInt < 10 := gj_nleL hc648988 (show Int32.toInt 10 = 10 by decide)
          have bg648985' : gB g648985 1 9 := ⟨by omega, by omega⟩
          refine G_iload_n 3 dr_cJ6_stringSize_0f7a4_22 rfl ?_
          refine G_iload_n 1 dr_cJ6_stringSize_0f7a4_23 rfl ?_
          refine G_icmp_le 31 dr_cJ6_stringSize_0f7a4_24 (by decide +kernel) (fun hc648991 => ?_) (fun hc648991 => ?_)
          · have r648992 : p648932.toInt ≤ g648986.toInt := gC_le hc648991
            refine G_bipush 10 dr_cJ6_stringSize_0f7a4_31 (by decide +kernel) ?_
            refine G_iload_n 1 dr_cJ6_stringSize_0f7a4_33 rfl ?_
            refine G_imul dr_cJ6_stringSize_0f7a4_34 (G_nam fun z648993 hz648993 => ?_)
            have bz648993 : gB z648993 (-2147483648) 2147483647 := gB_any z648993
            refine G_istore_n (L' := [(2, .int z648993), (3, .int g648985), (1, .int 1), (0, .int p648932)]) dr_cJ6_stringSize_0f7a4_35 (Nat.le_of_ble_eq_true rfl) rfl ?_
            obtain ⟨z648994, hz648994⟩ : ∃ z : Int32, z = g648985 + Int32.ofInt 1 := ⟨_, rfl⟩
            have ez648994 : z648994.toInt = g648985.toInt + 1 := gI_inc hz648994 (by decide) bg648985' (by decide) (by decide)
            have bz648994 : gB z648994 2 10 := ⟨by omega, by omega⟩
            refine G_iinc (L' := [(3, .int z648994), (2, .int z648993), (1, .int 1), (0, .int p648932)]) z648994 1 dr_cJ6_stringSize_0f7a4_36 rfl hz648994.symm (Nat.le_of_ble_eq_true rfl) rfl ?_
            refine G_goto 16 dr_cJ6_stringSize_0f7a4_39 (by decide +kernel) ?_
            exact ih16_648987 z648994 z648993 (gB_w bz648994 (by decide) (by decide)) (ssI_st x648987 (by omega) (by omega) hz648993) (by have qa0 : Int32.toInt 1 = 1 := (by decide); omega)
          · have r648995 : g648986.toInt < p648932.toInt := gC_nle hc648991
            have bg648986' : gB g648986 (-2147483648) (-2) := ⟨by omega, by omega⟩
            have bp648932'' : gB p648932 (-2147483647) (-1) := ⟨by omega, by omega⟩
            refine G_iload_n 0 dr_cJ6_stringSize_0f7a4_27 rfl ?_
            refine G_iload_n 2 dr_cJ6_stringSize_0f7a4_28 rfl ?_
            refine G_iadd dr_cJ6_stringSize_0f7a4_29 (G_nam fun z648996 hz648996 => ?_)
            have ez648996 : z648996.toInt = g648985.toInt + 1 := by rw [gI_add hz648996 bg648985' (gBl (show Int32.toInt 1 = 1 by decide)) (by decide) (by decide), show Int32.toInt 1 = 1 from by decide]
            have bz648996 : gB z648996 2 10 := gB_add (gI_add hz648996 bg648985' (gBl (show Int32.toInt 1 = 1 by decide)) (by decide) (by decide)) bg648985' (gBl (show Int32.toInt 1 = 1 by decide)) (by decide) (by decide)
            exact G_iretA dr_cJ6_stringSize_0f7a4_30 rfl (Nat.le_of_ble_eq_true rfl) (Nat.le_of_ble_eq_true rfl) ⟨z648996, rfl, rfl, (Nat.le_of_ble_eq_true rfl), (Nat.le_of_ble_eq_true rfl), (gB_w bz648996 (by decide) (by decide)), (by have q10 : Int32.toInt 10 = 10 := (by decide); have q11 : Int32.toInt 11 = 11 := (by decide); first | exact dgS_p (x := -p648932.toInt) (by omega) rfl (dgB_up (ssI_r x648987 (by omega) (fun _ => by omega)) (by omega) (by omega)) | exact dgS_n (by omega) (by omega) (ssI_r x648987 (by omega) (fun _ => by omega)))⟩
    exact hlp16_648987 (((11 : Int) - 1).toNat + 1) 1 (-10) (gB_w (gBl (show Int32.toInt 1 = 1 by decide)) (by decide) (by decide)) ssI_0 (Nat.lt_succ_self _)
  · have r648997 : 0 ≤ p648932.toInt := gj_nlt hc648934 (show Int32.toInt 0 = 0 by decide)
    have bp648932' : gB p648932 0 2147483647 := ⟨by omega, by omega⟩
    refine G_iconst 0 dr_cJ6_stringSize_0f7a4_6 (by decide +kernel) ?_
    refine G_istore_n (L' := [(1, .int 0), (0, .int p648932)]) dr_cJ6_stringSize_0f7a4_7 (Nat.le_of_ble_eq_true rfl) rfl ?_
    refine G_iload_n 1 dr_cJ6_stringSize_0f7a4_8 rfl ?_
    refine G_ineg dr_cJ6_stringSize_0f7a4_9 (G_nam fun z648998 hz648998 => ?_)
    have ez648998 : z648998.toInt = -p648932.toInt := gI_neg hz648998 bp648932' (by decide)
    have bz648998 : gB z648998 (-2147483647) 0 := ⟨by omega, by omega⟩
    refine G_istore_n (L' := [(0, .int z648998), (1, .int 0)]) dr_cJ6_stringSize_0f7a4_10 (Nat.le_of_ble_eq_true rfl) rfl ?_
    refine G_bipush (-10) dr_cJ6_stringSize_0f7a4_11 (by decide +kernel) ?_
    refine G_istore_n (L' := [(2, .int (-10)), (0, .int z648998), (1, .int 0)]) dr_cJ6_stringSize_0f7a4_13 (Nat.le_of_ble_eq_true rfl) rfl ?_
    refine G_iconst 1 dr_cJ6_stringSize_0f7a4_14 (by decide +kernel) ?_
    refine G_istore_n (L' := [(3, .int 1), (2, .int (-10)), (0, .int z648998), (1, .int 0)]) dr_cJ6_stringSize_0f7a4_15 (Nat.le_of_ble_eq_true rfl) rfl ?_
    have hlp16_649050 : ∀ (n16_649050 : Nat) (g649048 : Int32) (g649049 : Int32), gB g649048 1 10 → ssI g649048 g649049 → ((11 : Int) - g649048.toInt).toNat < n16_649050 → G (gV D I) l (gRm 0 0 0 0) (gMA (gV D I) (pp_648933_Integer_stringSize D I P648930 F648931 p648932) gNA 0 0) ky_648933_Integer_stringSize 16 [(3, .int g649048), (2, .int g649049), (0, .int z648998), (1, .int 0)] [] (va_pl P648930 F648931) 0 0 := by
      intro n16_649050
      induction n16_649050 with
      | zero => intro g649048 g649049 bg649048 x649050 hm16_649050; exact absurd hm16_649050 (Nat.not_lt_zero _)
      | succ n16_649050 ih16_649050 =>
        intro g649048 g649049 bg649048 x649050 hm16_649050
        have bg649049 := gB_any g649049
        refine G_iload_n 0 dr_cJ6_stringSize_0f7a4_16 rfl ?_
        refine G_bipush 10 dr_cJ6_stringSize_0f7a4_17 (by decide +kernel) ?_
        refine G_icmp_ge 42 dr_cJ6_stringSize_0f7a4_19 (by decide +kernel) (fun hc649051 => ?_) (fun hc649051 => ?_)
        · have r649052 : 10 ≤ g649048.toInt := gj_leL hc649051 (show Int32.toInt 10 = 10 by decide)
          have bg649048' : gB g649048 10 10 := ⟨by omega, by omega⟩
          refine G_bipush 10 dr_cJ6_stringSize_0f7a4_42 (by decide +kernel) ?_
          refine G_iload_n 3 dr_cJ6_stringSize_0f7a4_44 rfl ?_
          refine G_iadd dr_cJ6_stringSize_0f7a4_45 ?_
          refine G_eqi (y := 10) (by decide) ?_
          exact G_iretA dr_cJ6_stringSize_0f7a4_46 rfl (Nat.le_of_ble_eq_true rfl) (Nat.le_of_ble_eq_true rfl) ⟨10, rfl, rfl, (Nat.le_of_ble_eq_true rfl), (Nat.le_of_ble_eq_true rfl), (gB_w (gBl (show Int32.toInt 10 = 10 by decide)) (by decide) (by decide)), (by have q10 : Int32.toInt 10 = 10 := (by decide); have q11 : Int32.toInt 11 = 11 := (by decide); first | exact dgS_p (x := -p648932.toInt) (by omega) rfl (dgB_up (ssI_r x649050 (by omega) (fun _ => by omega)) (by omega) (by omega)) | exact dgS_n (by omega) (by omega) (ssI_r x649050 (by omega) (fun _ => by omega)))⟩
        · have r649053 : g649048.toInt < 10 := gj_nleL hc649051 (show Int32.toInt 10 = 10 by decide)
          have bg649048' : gB g649048 1 9 := ⟨by omega, by omega⟩
          refine G_iload_n 2 dr_cJ6_stringSize_0f7a4_22 rfl ?_
          refine G_iload_n 1 dr_cJ6_stringSize_0f7a4_23 rfl ?_
          refine G_icmp_le 31 dr_cJ6_stringSize_0f7a4_24 (by decide +kernel) (fun hc649054 => ?_) (fun hc649054 => ?_)
          · have r649055 : z648998.toInt ≤ g649049.toInt := gC_le hc649054
            have bg649049' : gB g649049 (-2147483647) 2147483647 := ⟨by omega, by omega⟩
            refine G_bipush 10 dr_cJ6_stringSize_0f7a4_31 (by decide +kernel) ?_
            refine G_iload_n 1 dr_cJ6_stringSize_0f7a4_33 rfl ?_
            refine G_imul dr_cJ6_stringSize_0f7a4_34 (G_nam fun z649056 hz649056 => ?_)
            have bz649056 : gB z649056 (-2147483648) 2147483647 := gB_any z649056
            refine G_istore_n (L' := [(2, .int z649056), (3, .int g649048), (0, .int z648998), (1, .int 0)]) dr_cJ6_stringSize_0f7a4_35 (Nat.le_of_ble_eq_true rfl) rfl ?_
            obtain ⟨z649057, hz649057⟩ : ∃ z : Int32, z = g649048 + Int32.ofInt 1 := ⟨_, rfl⟩
            have ez649057 : z649057.toInt = g649048.toInt + 1 := gI_inc hz649057 (by decide) bg649048' (by decide) (by decide)
            have bz649057 : gB z649057 2 10 := ⟨by omega, by omega⟩
            refine G_iinc (L' := [(3, .int z649057), (2, .int z649056), (0, .int z648998), (1, .int 0)]) z649057 1 dr_cJ6_stringSize_0f7a4_36 rfl hz649057.symm (Nat.le_of_ble_eq_true rfl) rfl ?_
            refine G_goto 16 dr_cJ6_stringSize_0f7a4_39 (by decide +kernel) ?_
            exact ih16_649050 z649057 z649056 (gB_w bz649057 (by decide) (by decide)) (ssI_st x649050 (by omega) (by omega) hz649056) (by have qa0 : Int32.toInt 0 = 0 := (by decide); omega)
          · have r649058 : g649049.toInt < z648998.toInt := gC_nle hc649054
            have bg649049' : gB g649049 (-2147483648) (-1) := ⟨by omega, by omega⟩
            refine G_iload_n 0 dr_cJ6_stringSize_0f7a4_27 rfl ?_
            refine G_iload_n 3 dr_cJ6_stringSize_0f7a4_28 rfl ?_
            refine G_iadd dr_cJ6_stringSize_0f7a4_29 (G_nam fun z649059 hz649059 => ?_)
            have ez649059 : z649059.toInt = g649048.toInt + 0 := by rw [gI_add hz649059 bg649048' (gBl (show Int32.toInt 0 = 0 by decide)) (by decide) (by decide), show Int32.toInt 0 = 0 from by decide]
            have bz649059 : gB z649059 1 9 := gB_add (gI_add hz649059 bg649048' (gBl (show Int32.toInt 0 = 0 by decide)) (by decide) (by decide)) bg649048' (gBl (show Int32.toInt 0 = 0 by decide)) (by decide) (by decide)
            exact G_iretA dr_cJ6_stringSize_0f7a4_30 rfl (Nat.le_of_ble_eq_true rfl) (Nat.le_of_ble_eq_true rfl) ⟨z649059, rfl, rfl, (Nat.le_of_ble_eq_true rfl), (Nat.le_of_ble_eq_true rfl), (gB_w bz649059 (by decide) (by decide)), (by have q10 : Int32.toInt 10 = 10 := (by decide); have q11 : Int32.toInt 11 = 11 := (by decide); first | exact dgS_p (x := -p648932.toInt) (by omega) rfl (dgB_up (ssI_r x649050 (by omega) (fun _ => by omega)) (by omega) (by omega)) | exact dgS_n (by omega) (by omega) (ssI_r x649050 (by omega) (fun _ => by omega)))⟩
    exact hlp16_649050 (((11 : Int) - 1).toNat + 1) 1 (-10) (gB_w (gBl (show Int32.toInt 1 = 1 by decide)) (by decide) (by decide)) ssI_0 (Nat.lt_succ_self _)
abbrev ky_649110_Integer_getChars : gKey := (cJ6_getChars_ba4f3, 7, "java/lang/Integer", (some FieldType.int), [], "getChars", fun _ _ => True)
def pp_649110_Integer_getChars (D : va_G) (I : FieldType → ClassId) (P649100 : List Nat) (F649101 : Nat → va_E) (q649102 : Nat) (p649103 : Int32) (p649104 : Int32) (f649105 : Nat → Int32) (n649106 : Nat) : Option Value → va_W → Nat → Nat → Prop := fun r w dc ds => ∃ (F649502 : Nat → va_E) (o649500 : Int32) (f649499 : Nat → Int32), r = some (.int o649500) ∧ w = va_pl P649100 F649502 ∧ rFr [q649102] P649100 F649101 F649502 ∧ F649502 q649102 = .inl (I .byte, n649106, .inl f649499) ∧ dc ≤ 0 ∧ ds ≤ 0 ∧ gB o649500 0 16777215 ∧ gF f649499 (-128) 127
set_option maxRecDepth 100000 in
set_option maxHeartbeats 4000000 in
theorem cp_649110_Integer_getChars (l : Launch) (hl0 : l.stackTraces = false) (D : va_G) (I : FieldType → ClassId) (P649100 : List Nat) (F649101 : Nat → va_E) (q649102 : Nat) (p649103 : Int32) (p649104 : Int32) (f649105 : Nat → Int32) (n649106 : Nat) (hmq649102 : q649102 ∈ P649100) (heq649102 : F649101 q649102 = .inl (I .byte, n649106, .inl f649105)) (bp649104 : gB p649104 0 16777216) (bf649105 : gF f649105 (-128) 127) (x649107 : p649104.toInt ≤ (n649106 : Int)) (x649108 : dgS p649103.toInt p649104.toInt) (x649109 : ((n649106 : Int) ≤ 16777216)) : CtA (gV D I) l yJ6_getChars_ba4f3 cJ6_getChars_ba4f3 7 (some FieldType.int) 0 0 0 0 [.int p649103, .int p649104, .ref q649102] (va_pl P649100 F649101) (pp_649110_Integer_getChars D I P649100 F649101 q649102 p649103 p649104 f649105 n649106) gNA := by
  refine CtA_ofF hl0 (by decide +kernel) (Nat.le_of_ble_eq_true rfl) ?_
  have bp649103 := gB_any p649103
  refine G_iload_n 1 dr_cJ6_getChars_ba4f3_0 rfl ?_
  refine G_istore (L' := [(5, .int p649104), (0, .int p649103), (1, .int p649104), (2, .ref q649102)]) dr_cJ6_getChars_ba4f3_1 (Nat.le_of_ble_eq_true rfl) rfl ?_
  refine G_iload_n 1 dr_cJ6_getChars_ba4f3_3 rfl ?_
  refine G_if_ge 11 dr_cJ6_getChars_ba4f3_4 (by decide +kernel) (fun hc649111 => ?_) (fun hc649111 => ?_)
  · have r649112 : 0 ≤ p649103.toInt := gj_leL hc649111 (show Int32.toInt 0 = 0 by decide)
    have bp649103' : gB p649103 0 2147483647 := ⟨by omega, by omega⟩
    refine G_iconst 0 dr_cJ6_getChars_ba4f3_11 (by decide +kernel) ?_
    refine G_istore (L' := [(6, .int 0), (5, .int p649104), (0, .int p649103), (1, .int p649104), (2, .ref q649102)]) dr_cJ6_getChars_ba4f3_12 (Nat.le_of_ble_eq_true rfl) rfl ?_
    refine G_iload 0 dr_cJ6_getChars_ba4f3_14 rfl ?_
    refine G_if_ne 22 dr_cJ6_getChars_ba4f3_16 (by decide +kernel) (fun hc => absurd hc (by decide)) (fun _ => ?_)
    refine G_iload_n 2 dr_cJ6_getChars_ba4f3_19 rfl ?_
    refine G_ineg dr_cJ6_getChars_ba4f3_20 (G_nam fun z649113 hz649113 => ?_)
    have ez649113 : z649113.toInt = -p649103.toInt := gI_neg hz649113 bp649103' (by decide)
    have bz649113 : gB z649113 (-2147483647) 0 := ⟨by omega, by omega⟩
    refine G_istore_n (L' := [(0, .int z649113), (6, .int 0), (5, .int p649104), (1, .int p649104), (2, .ref q649102)]) dr_cJ6_getChars_ba4f3_21 (Nat.le_of_ble_eq_true rfl) rfl ?_
    have hlp22_649230 : ∀ (n22_649230 : Nat) (F649225 : Nat → va_E) (g649222 : Int32) (g649223 : Int32) (f649224 : Nat → Int32), gB g649222 (-2147483647) 0 → gB g649223 0 16777216 → gF f649224 (-128) 127 → rFr [q649102] P649100 F649101 F649225 → F649225 q649102 = .inl (I .byte, n649106, .inl f649224) → g649222.toInt ≤ 0 → dgB g649222.toInt (g649223.toInt - 0) → g649223.toInt ≤ p649104.toInt → (-g649222.toInt).toNat < n22_649230 → G (gV D I) l (gRm 0 0 0 0) (gMA (gV D I) (pp_649110_Integer_getChars D I P649100 F649101 q649102 p649103 p649104 f649105 n649106) gNA 0 0) ky_649110_Integer_getChars 22 [(0, .int g649222), (6, .int 0), (5, .int g649223), (1, .int p649104), (2, .ref q649102)] [] (va_pl P649100 F649225) 0 0 := by
      intro n22_649230
      induction n22_649230 with
      | zero => intro F649225 g649222 g649223 f649224 bg649222 bg649223 bf649224 hfr649227 he649226 x649228 x649229 x649230 hm22_649230; exact absurd hm22_649230 (Nat.not_lt_zero _)
      | succ n22_649230 ih22_649230 =>
        intro F649225 g649222 g649223 f649224 bg649222 bg649223 bf649224 hfr649227 he649226 x649228 x649229 x649230 hm22_649230
        refine G_iload_n 0 dr_cJ6_getChars_ba4f3_22 rfl ?_
        refine G_bipush (-100) dr_cJ6_getChars_ba4f3_23 (by decide +kernel) ?_
        refine G_icmp_gt 72 dr_cJ6_getChars_ba4f3_25 (by decide +kernel) (fun hc649231 => ?_) (fun hc649231 => ?_)
        · have r649232 : (-100) < g649222.toInt := gj_ltL hc649231 (show Int32.toInt (-100) = (-100) by decide)
          have bg649222' : gB g649222 (-99) 0 := ⟨by omega, by omega⟩
          have x649233 : (1 : Int) ≤ (g649223.toInt - 0) := dgB_1 x649229
          refine G_aload_n 4 dr_cJ6_getChars_ba4f3_72 rfl ?_
          have bg649223' : gB g649223 1 16777216 := ⟨by omega, by omega⟩
          obtain ⟨z649234, hz649234⟩ : ∃ z : Int32, z = g649223 + Int32.ofInt (-1) := ⟨_, rfl⟩
          have ez649234 : z649234.toInt = g649223.toInt + (-1) := gI_inc hz649234 (by decide) bg649223' (by decide) (by decide)
          have bz649234 : gB z649234 0 16777215 := ⟨by omega, by omega⟩
          refine G_iinc (L' := [(5, .int z649234), (0, .int g649222), (6, .int 0), (1, .int p649104), (2, .ref q649102)]) z649234 2 dr_cJ6_getChars_ba4f3_73 rfl hz649234.symm (Nat.le_of_ble_eq_true rfl) rfl ?_
          refine G_iload 0 dr_cJ6_getChars_ba4f3_76 rfl ?_
          refine G_gets dr_cJ6_getChars_ba4f3_78 wr_8_118 gr_on (fun x649236 hx649235 => ?_)
          subst hx649235
          refine G_iload_n 1 dr_cJ6_getChars_ba4f3_81 rfl ?_
          refine G_ineg dr_cJ6_getChars_ba4f3_82 (G_nam fun z649237 hz649237 => ?_)
          have ez649237 : z649237.toInt = -g649222.toInt := gI_neg hz649237 bg649222' (by decide)
          have bz649237 : gB z649237 0 99 := ⟨by omega, by omega⟩
          refine G_kbald (f := dg_O) dr_cJ6_getChars_ba4f3_83 gr_ont (gB_inr (by omega) (by omega)) (G_nam fun z649238 hz649238 => ?_)
          have bz649238 : gB z649238 (-2147483648) 2147483647 := gB_any z649238
          refine Gp_bast 1 hmq649102 he649226 dr_cJ6_getChars_ba4f3_84 rfl (gB_inr (by omega) (by omega)) (fun F649239 e649240 n649241 => ?_)
          obtain ⟨f649242, hf649242⟩ : ∃ z, z = upd f649224 z649234.toNatClampNeg (vp_nar .byte z649238) := ⟨_, rfl⟩
          rw [← hf649242] at e649240
          have he649243 : F649239 q649102 = .inl (I .byte, n649106, .inl f649242) := e649240
          have hfr649244 : rFr [q649102] P649100 F649101 F649239 := rFr_put' List.mem_cons_self hfr649227 n649241
          have bf649242 : gF f649242 (-128) 127 := gF_upd hf649242 bf649224 gB_byte
          refine G_iload_n 1 dr_cJ6_getChars_ba4f3_85 rfl ?_
          refine G_bipush (-9) dr_cJ6_getChars_ba4f3_86 (by decide +kernel) ?_
          refine G_icmp_ge 104 dr_cJ6_getChars_ba4f3_88 (by decide +kernel) (fun hc649245 => ?_) (fun hc649245 => ?_)
          · have r649246 : (-9) ≤ g649222.toInt := gj_leL hc649245 (show Int32.toInt (-9) = (-9) by decide)
            have bg649222'' : gB g649222 (-9) 0 := ⟨by omega, by omega⟩
            refine G_iload 2 dr_cJ6_getChars_ba4f3_104 rfl ?_
            refine G_if_eq 118 dr_cJ6_getChars_ba4f3_106 (by decide +kernel) (fun _ => ?_) (fun hc => absurd hc (by decide))
            refine G_iload 0 dr_cJ6_getChars_ba4f3_118 rfl ?_
            exact G_iretA dr_cJ6_getChars_ba4f3_120 rfl (Nat.le_of_ble_eq_true rfl) (Nat.le_of_ble_eq_true rfl) ⟨F649239, z649234, f649242, rfl, rfl, hfr649244, he649243, (Nat.le_of_ble_eq_true rfl), (Nat.le_of_ble_eq_true rfl), bz649234, bf649242⟩
          · have r649247 : g649222.toInt < (-9) := gj_nleL hc649245 (show Int32.toInt (-9) = (-9) by decide)
            have bg649222'' : gB g649222 (-99) (-10) := ⟨by omega, by omega⟩
            have x649248 : (2 : Int) ≤ (g649223.toInt - 0) := dgB_2 x649229 (by omega)
            refine G_aload_n 4 dr_cJ6_getChars_ba4f3_91 rfl ?_
            have bz649234' : gB z649234 1 16777215 := ⟨by omega, by omega⟩
            obtain ⟨z649249, hz649249⟩ : ∃ z : Int32, z = z649234 + Int32.ofInt (-1) := ⟨_, rfl⟩
            have ez649249 : z649249.toInt = z649234.toInt + (-1) := gI_inc hz649249 (by decide) bz649234' (by decide) (by decide)
            have bz649249 : gB z649249 0 16777214 := ⟨by omega, by omega⟩
            refine G_iinc (L' := [(5, .int z649249), (0, .int g649222), (6, .int 0), (1, .int p649104), (2, .ref q649102)]) z649249 0 dr_cJ6_getChars_ba4f3_92 rfl hz649249.symm (Nat.le_of_ble_eq_true rfl) rfl ?_
            refine G_iload 0 dr_cJ6_getChars_ba4f3_95 rfl ?_
            refine G_gets dr_cJ6_getChars_ba4f3_97 wr_8_120 gr_te (fun x649251 hx649250 => ?_)
            subst hx649250
            refine G_iload_n 1 dr_cJ6_getChars_ba4f3_100 rfl ?_
            refine G_ineg dr_cJ6_getChars_ba4f3_101 (G_nam fun z649252 hz649252 => ?_)
            have ez649252 : z649252.toInt = -g649222.toInt := gI_neg hz649252 bg649222'' (by decide)
            have bz649252 : gB z649252 10 99 := ⟨by omega, by omega⟩
            refine G_kbald (f := dg_T) dr_cJ6_getChars_ba4f3_102 gr_tet (gB_inr (by omega) (by omega)) (G_nam fun z649253 hz649253 => ?_)
            have bz649253 : gB z649253 (-2147483648) 2147483647 := gB_any z649253
            refine Gp_bast 1 hmq649102 he649243 dr_cJ6_getChars_ba4f3_103 rfl (gB_inr (by omega) (by omega)) (fun F649254 e649255 n649256 => ?_)
            obtain ⟨f649257, hf649257⟩ : ∃ z, z = upd f649242 z649249.toNatClampNeg (vp_nar .byte z649253) := ⟨_, rfl⟩
            rw [← hf649257] at e649255
            have he649258 : F649254 q649102 = .inl (I .byte, n649106, .inl f649257) := e649255
            have hfr649259 : rFr [q649102] P649100 F649101 F649254 := rFr_put' List.mem_cons_self hfr649244 n649256
            have bf649257 : gF f649257 (-128) 127 := gF_upd hf649257 bf649242 gB_byte
            refine G_iload 2 dr_cJ6_getChars_ba4f3_104 rfl ?_
            refine G_if_eq 118 dr_cJ6_getChars_ba4f3_106 (by decide +kernel) (fun _ => ?_) (fun hc => absurd hc (by decide))
            refine G_iload 0 dr_cJ6_getChars_ba4f3_118 rfl ?_
            exact G_iretA dr_cJ6_getChars_ba4f3_120 rfl (Nat.le_of_ble_eq_true rfl) (Nat.le_of_ble_eq_true rfl) ⟨F649254, z649249, f649257, rfl, rfl, hfr649259, he649258, (Nat.le_of_ble_eq_true rfl), (Nat.le_of_ble_eq_true rfl), (gB_w bz649249 (by decide) (by decide)), bf649257⟩
        · have r649260 : g649222.toInt ≤ (-100) := gj_nltL hc649231 (show Int32.toInt (-100) = (-100) by decide)
          have bg649222' : gB g649222 (-2147483647) (-100) := ⟨by omega, by omega⟩
          have x649261 : (3 : Int) ≤ (g649223.toInt - 0) := dgB_3 x649229 (by omega)
          refine G_iload_n 0 dr_cJ6_getChars_ba4f3_28 rfl ?_
          refine G_bipush 100 dr_cJ6_getChars_ba4f3_29 (by decide +kernel) ?_
          refine G_idiv dr_cJ6_getChars_ba4f3_31 (by decide) (G_nam fun z649262 hz649262 => ?_)
          have ez649262 : z649262.toInt = -((-g649222.toInt) / 100) := gI_divn hz649262 bg649222' (by decide) (by decide) (by decide)
          have bz649262 : gB z649262 (-21474836) (-1) := ⟨by omega, by omega⟩
          refine G_istore_n (L' := [(3, .int z649262), (0, .int g649222), (6, .int 0), (5, .int g649223), (1, .int p649104), (2, .ref q649102)]) dr_cJ6_getChars_ba4f3_32 (Nat.le_of_ble_eq_true rfl) rfl ?_
          refine G_iload_n 0 dr_cJ6_getChars_ba4f3_33 rfl ?_
          refine G_bipush 100 dr_cJ6_getChars_ba4f3_34 (by decide +kernel) ?_
          refine G_imul dr_cJ6_getChars_ba4f3_36 (G_nam fun z649263 hz649263 => ?_)
          have ez649263 : z649263.toInt = z649262.toInt * 100 := gI_mulK hz649263 (by decide) (by omega) (by omega)
          have bz649263 : gB z649263 (-2147483600) (-100) := ⟨by omega, by omega⟩
          refine G_iload_n 1 dr_cJ6_getChars_ba4f3_37 rfl ?_
          refine G_isub dr_cJ6_getChars_ba4f3_38 (G_nam fun z649264 hz649264 => ?_)
          have ez649264 : z649264.toInt = z649263.toInt - g649222.toInt := by rw [gI_sub hz649264 bz649263 bg649222' (by decide) (by decide)]
          have bz649264 : gB z649264 (-2147483500) 2147483547 := gB_sub (gI_sub hz649264 bz649263 bg649222' (by decide) (by decide)) bz649263 bg649222' (by decide) (by decide)
          refine G_istore (L' := [(4, .int z649264), (3, .int z649262), (0, .int g649222), (6, .int 0), (5, .int g649223), (1, .int p649104), (2, .ref q649102)]) dr_cJ6_getChars_ba4f3_39 (Nat.le_of_ble_eq_true rfl) rfl ?_
          refine G_iload_n 1 dr_cJ6_getChars_ba4f3_41 rfl ?_
          refine G_istore_n (L' := [(0, .int z649262), (4, .int z649264), (3, .int z649262), (6, .int 0), (5, .int g649223), (1, .int p649104), (2, .ref q649102)]) dr_cJ6_getChars_ba4f3_42 (Nat.le_of_ble_eq_true rfl) rfl ?_
          refine G_aload_n 6 dr_cJ6_getChars_ba4f3_43 rfl ?_
          have bg649223' : gB g649223 2 16777216 := ⟨by omega, by omega⟩
          obtain ⟨z649265, hz649265⟩ : ∃ z : Int32, z = g649223 + Int32.ofInt (-1) := ⟨_, rfl⟩
          have ez649265 : z649265.toInt = g649223.toInt + (-1) := gI_inc hz649265 (by decide) bg649223' (by decide) (by decide)
          have bz649265 : gB z649265 1 16777215 := ⟨by omega, by omega⟩
          refine G_iinc (L' := [(5, .int z649265), (0, .int z649262), (4, .int z649264), (3, .int z649262), (6, .int 0), (1, .int p649104), (2, .ref q649102)]) z649265 4 dr_cJ6_getChars_ba4f3_44 rfl hz649265.symm (Nat.le_of_ble_eq_true rfl) rfl ?_
          refine G_iload 0 dr_cJ6_getChars_ba4f3_47 rfl ?_
          refine G_gets dr_cJ6_getChars_ba4f3_49 wr_8_118 gr_on (fun x649267 hx649266 => ?_)
          subst hx649266
          refine G_iload 2 dr_cJ6_getChars_ba4f3_52 rfl ?_
          refine G_kbald (f := dg_O) dr_cJ6_getChars_ba4f3_54 gr_ont (gB_inr (by omega) (by omega)) (G_nam fun z649268 hz649268 => ?_)
          have bz649268 : gB z649268 (-2147483648) 2147483647 := gB_any z649268
          refine Gp_bast 1 hmq649102 he649226 dr_cJ6_getChars_ba4f3_55 rfl (gB_inr (by omega) (by omega)) (fun F649269 e649270 n649271 => ?_)
          obtain ⟨f649272, hf649272⟩ : ∃ z, z = upd f649224 z649265.toNatClampNeg (vp_nar .byte z649268) := ⟨_, rfl⟩
          rw [← hf649272] at e649270
          have he649273 : F649269 q649102 = .inl (I .byte, n649106, .inl f649272) := e649270
          have hfr649274 : rFr [q649102] P649100 F649101 F649269 := rFr_put' List.mem_cons_self hfr649227 n649271
          have bf649272 : gF f649272 (-128) 127 := gF_upd hf649272 bf649224 gB_byte
          refine G_aload_n 6 dr_cJ6_getChars_ba4f3_56 rfl ?_
          obtain ⟨z649275, hz649275⟩ : ∃ z : Int32, z = z649265 + Int32.ofInt (-1) := ⟨_, rfl⟩
          have ez649275 : z649275.toInt = z649265.toInt + (-1) := gI_inc hz649275 (by decide) bz649265 (by decide) (by decide)
          have bz649275 : gB z649275 0 16777214 := ⟨by omega, by omega⟩
          refine G_iinc (L' := [(5, .int z649275), (0, .int z649262), (4, .int z649264), (3, .int z649262), (6, .int 0), (1, .int p649104), (2, .ref q649102)]) z649275 0 dr_cJ6_getChars_ba4f3_57 rfl hz649275.symm (Nat.le_of_ble_eq_true rfl) rfl ?_
          refine G_iload 0 dr_cJ6_getChars_ba4f3_60 rfl ?_
          refine G_gets dr_cJ6_getChars_ba4f3_62 wr_8_120 gr_te (fun x649277 hx649276 => ?_)
          subst hx649276
          refine G_iload 2 dr_cJ6_getChars_ba4f3_65 rfl ?_
          refine G_kbald (f := dg_T) dr_cJ6_getChars_ba4f3_67 gr_tet (gB_inr (by omega) (by omega)) (G_nam fun z649278 hz649278 => ?_)
          have bz649278 : gB z649278 (-2147483648) 2147483647 := gB_any z649278
          refine Gp_bast 1 hmq649102 he649273 dr_cJ6_getChars_ba4f3_68 rfl (gB_inr (by omega) (by omega)) (fun F649279 e649280 n649281 => ?_)
          obtain ⟨f649282, hf649282⟩ : ∃ z, z = upd f649272 z649275.toNatClampNeg (vp_nar .byte z649278) := ⟨_, rfl⟩
          rw [← hf649282] at e649280
          have he649283 : F649279 q649102 = .inl (I .byte, n649106, .inl f649282) := e649280
          have hfr649284 : rFr [q649102] P649100 F649101 F649279 := rFr_put' List.mem_cons_self hfr649274 n649281
          have bf649282 : gF f649282 (-128) 127 := gF_upd hf649282 bf649272 gB_byte
          refine G_goto 22 dr_cJ6_getChars_ba4f3_69 (by decide +kernel) ?_
          refine G_lv (L' := [(0, .int z649262), (6, .int 0), (5, .int z649275), (1, .int p649104), (2, .ref q649102)]) [1, 4, 0, 5, 6] rfl ?_
          exact ih22_649230 F649279 z649262 z649275 f649282 (gB_w bz649262 (by decide) (by decide)) (gB_w bz649275 (by decide) (by decide)) bf649282 hfr649284 he649283 (by have qa0 : Int32.toInt 0 = 0 := (by decide); omega) (by have q10 : Int32.toInt 10 = 10 := (by decide); have q11 : Int32.toInt 11 = 11 := (by decide); first | exact dgB_up (dgS_ip x649108 (by omega) (by omega)) (by omega) (by omega) | exact dgB_up (dgS_in x649108 (by omega)) (by omega) (by omega) | exact dgB_up x649229 (by omega) (by omega) | exact dgB_up (dgB_st x649229 (by omega) (by omega) (by omega)) (by omega) (by omega)) (by have qa0 : Int32.toInt 0 = 0 := (by decide); omega) (by have qa0 : Int32.toInt 0 = 0 := (by decide); omega)
    exact hlp22_649230 ((-z649113.toInt).toNat + 1) F649101 z649113 p649104 f649105 bz649113 bp649104 bf649105 (rFr_v (rFr_rf (W := []) (P := P649100) (F := F649101)) (fun b hn => nm_n)) heq649102 (by have qa0 : Int32.toInt 0 = 0 := (by decide); omega) (by have q10 : Int32.toInt 10 = 10 := (by decide); have q11 : Int32.toInt 11 = 11 := (by decide); first | exact dgB_up (dgS_ip x649108 (by omega) (by omega)) (by omega) (by omega) | exact dgB_up (dgS_in x649108 (by omega)) (by omega) (by omega)) (by have qa0 : Int32.toInt 0 = 0 := (by decide); omega) (Nat.lt_succ_self _)
  · have r649285 : p649103.toInt < 0 := gj_nleL hc649111 (show Int32.toInt 0 = 0 by decide)
    have bp649103' : gB p649103 (-2147483648) (-1) := ⟨by omega, by omega⟩
    refine G_iconst 1 dr_cJ6_getChars_ba4f3_7 (by decide +kernel) ?_
    refine G_goto 12 dr_cJ6_getChars_ba4f3_8 (by decide +kernel) ?_
    refine G_istore (L' := [(6, .int 1), (5, .int p649104), (0, .int p649103), (1, .int p649104), (2, .ref q649102)]) dr_cJ6_getChars_ba4f3_12 (Nat.le_of_ble_eq_true rfl) rfl ?_
    refine G_iload 0 dr_cJ6_getChars_ba4f3_14 rfl ?_
    refine G_if_ne 22 dr_cJ6_getChars_ba4f3_16 (by decide +kernel) (fun _ => ?_) (fun hc => absurd hc (by decide))
    have hlp22_649430 : ∀ (n22_649430 : Nat) (F649425 : Nat → va_E) (g649422 : Int32) (g649423 : Int32) (f649424 : Nat → Int32), gB g649422 0 16777216 → gB g649423 (-2147483648) (-1) → gF f649424 (-128) 127 → rFr [q649102] P649100 F649101 F649425 → F649425 q649102 = .inl (I .byte, n649106, .inl f649424) → g649423.toInt ≤ 0 → dgB g649423.toInt (g649422.toInt - 1) → g649422.toInt ≤ p649104.toInt → (-g649423.toInt).toNat < n22_649430 → G (gV D I) l (gRm 0 0 0 0) (gMA (gV D I) (pp_649110_Integer_getChars D I P649100 F649101 q649102 p649103 p649104 f649105 n649106) gNA 0 0) ky_649110_Integer_getChars 22 [(6, .int 1), (5, .int g649422), (0, .int g649423), (1, .int p649104), (2, .ref q649102)] [] (va_pl P649100 F649425) 0 0 := by
      intro n22_649430
      induction n22_649430 with
      | zero => intro F649425 g649422 g649423 f649424 bg649422 bg649423 bf649424 hfr649427 he649426 x649428 x649429 x649430 hm22_649430; exact absurd hm22_649430 (Nat.not_lt_zero _)
      | succ n22_649430 ih22_649430 =>
        intro F649425 g649422 g649423 f649424 bg649422 bg649423 bf649424 hfr649427 he649426 x649428 x649429 x649430 hm22_649430
        refine G_iload_n 2 dr_cJ6_getChars_ba4f3_22 rfl ?_
        refine G_bipush (-100) dr_cJ6_getChars_ba4f3_23 (by decide +kernel) ?_
        refine G_icmp_gt 72 dr_cJ6_getChars_ba4f3_25 (by decide +kernel) (fun hc649431 => ?_) (fun hc649431 => ?_)
        · have r649432 : (-100) < g649423.toInt := gj_ltL hc649431 (show Int32.toInt (-100) = (-100) by decide)
          have bg649423' : gB g649423 (-99) (-1) := ⟨by omega, by omega⟩
          have x649433 : (1 : Int) ≤ (g649422.toInt - 1) := dgB_1 x649429
          refine G_aload_n 4 dr_cJ6_getChars_ba4f3_72 rfl ?_
          have bg649422' : gB g649422 1 16777216 := ⟨by omega, by omega⟩
          obtain ⟨z649434, hz649434⟩ : ∃ z : Int32, z = g649422 + Int32.ofInt (-1) := ⟨_, rfl⟩
          have ez649434 : z649434.toInt = g649422.toInt + (-1) := gI_inc hz649434 (by decide) bg649422' (by decide) (by decide)
          have bz649434 : gB z649434 0 16777215 := ⟨by omega, by omega⟩
          refine G_iinc (L' := [(5, .int z649434), (6, .int 1), (0, .int g649423), (1, .int p649104), (2, .ref q649102)]) z649434 1 dr_cJ6_getChars_ba4f3_73 rfl hz649434.symm (Nat.le_of_ble_eq_true rfl) rfl ?_
          refine G_iload 0 dr_cJ6_getChars_ba4f3_76 rfl ?_
          refine G_gets dr_cJ6_getChars_ba4f3_78 wr_8_118 gr_on (fun x649436 hx649435 => ?_)
          subst hx649435
          refine G_iload_n 2 dr_cJ6_getChars_ba4f3_81 rfl ?_
          refine G_ineg dr_cJ6_getChars_ba4f3_82 (G_nam fun z649437 hz649437 => ?_)
          have ez649437 : z649437.toInt = -g649423.toInt := gI_neg hz649437 bg649423' (by decide)
          have bz649437 : gB z649437 1 99 := ⟨by omega, by omega⟩
          refine G_kbald (f := dg_O) dr_cJ6_getChars_ba4f3_83 gr_ont (gB_inr (by omega) (by omega)) (G_nam fun z649438 hz649438 => ?_)
          have bz649438 : gB z649438 (-2147483648) 2147483647 := gB_any z649438
          refine Gp_bast 1 hmq649102 he649426 dr_cJ6_getChars_ba4f3_84 rfl (gB_inr (by omega) (by omega)) (fun F649439 e649440 n649441 => ?_)
          obtain ⟨f649442, hf649442⟩ : ∃ z, z = upd f649424 z649434.toNatClampNeg (vp_nar .byte z649438) := ⟨_, rfl⟩
          rw [← hf649442] at e649440
          have he649443 : F649439 q649102 = .inl (I .byte, n649106, .inl f649442) := e649440
          have hfr649444 : rFr [q649102] P649100 F649101 F649439 := rFr_put' List.mem_cons_self hfr649427 n649441
          have bf649442 : gF f649442 (-128) 127 := gF_upd hf649442 bf649424 gB_byte
          refine G_iload_n 2 dr_cJ6_getChars_ba4f3_85 rfl ?_
          refine G_bipush (-9) dr_cJ6_getChars_ba4f3_86 (by decide +kernel) ?_
          refine G_icmp_ge 104 dr_cJ6_getChars_ba4f3_88 (by decide +kernel) (fun hc649445 => ?_) (fun hc649445 => ?_)
          · have r649446 : (-9) ≤ g649423.toInt := gj_leL hc649445 (show Int32.toInt (-9) = (-9) by decide)
            have bg649423'' : gB g649423 (-9) (-1) := ⟨by omega, by omega⟩
            refine G_iload 1 dr_cJ6_getChars_ba4f3_104 rfl ?_
            refine G_if_eq 118 dr_cJ6_getChars_ba4f3_106 (by decide +kernel) (fun hc => absurd hc (by decide)) (fun _ => ?_)
            refine G_aload_n 4 dr_cJ6_getChars_ba4f3_109 rfl ?_
            have bz649434' : gB z649434 1 16777215 := ⟨by omega, by omega⟩
            obtain ⟨z649447, hz649447⟩ : ∃ z : Int32, z = z649434 + Int32.ofInt (-1) := ⟨_, rfl⟩
            have ez649447 : z649447.toInt = z649434.toInt + (-1) := gI_inc hz649447 (by decide) bz649434' (by decide) (by decide)
            have bz649447 : gB z649447 0 16777214 := ⟨by omega, by omega⟩
            refine G_iinc (L' := [(5, .int z649447), (6, .int 1), (0, .int g649423), (1, .int p649104), (2, .ref q649102)]) z649447 0 dr_cJ6_getChars_ba4f3_110 rfl hz649447.symm (Nat.le_of_ble_eq_true rfl) rfl ?_
            refine G_iload 0 dr_cJ6_getChars_ba4f3_113 rfl ?_
            refine G_bipush 45 dr_cJ6_getChars_ba4f3_115 (by decide +kernel) ?_
            refine Gp_bast 1 hmq649102 he649443 dr_cJ6_getChars_ba4f3_117 rfl (gB_inr (by omega) (by omega)) (fun F649448 e649449 n649450 => ?_)
            obtain ⟨f649451, hf649451⟩ : ∃ z, z = upd f649442 z649447.toNatClampNeg (vp_nar .byte 45) := ⟨_, rfl⟩
            rw [← hf649451] at e649449
            have he649452 : F649448 q649102 = .inl (I .byte, n649106, .inl f649451) := e649449
            have hfr649453 : rFr [q649102] P649100 F649101 F649448 := rFr_put' List.mem_cons_self hfr649444 n649450
            have bf649451 : gF f649451 (-128) 127 := gF_upd hf649451 bf649442 gB_byte
            refine G_iload 0 dr_cJ6_getChars_ba4f3_118 rfl ?_
            exact G_iretA dr_cJ6_getChars_ba4f3_120 rfl (Nat.le_of_ble_eq_true rfl) (Nat.le_of_ble_eq_true rfl) ⟨F649448, z649447, f649451, rfl, rfl, hfr649453, he649452, (Nat.le_of_ble_eq_true rfl), (Nat.le_of_ble_eq_true rfl), (gB_w bz649447 (by decide) (by decide)), bf649451⟩
          · have r649454 : g649423.toInt < (-9) := gj_nleL hc649445 (show Int32.toInt (-9) = (-9) by decide)
            have bg649423'' : gB g649423 (-99) (-10) := ⟨by omega, by omega⟩
            have x649455 : (2 : Int) ≤ (g649422.toInt - 1) := dgB_2 x649429 (by omega)
            refine G_aload_n 4 dr_cJ6_getChars_ba4f3_91 rfl ?_
            have bz649434' : gB z649434 1 16777215 := ⟨by omega, by omega⟩
            obtain ⟨z649456, hz649456⟩ : ∃ z : Int32, z = z649434 + Int32.ofInt (-1) := ⟨_, rfl⟩
            have ez649456 : z649456.toInt = z649434.toInt + (-1) := gI_inc hz649456 (by decide) bz649434' (by decide) (by decide)
            have bz649456 : gB z649456 0 16777214 := ⟨by omega, by omega⟩
            refine G_iinc (L' := [(5, .int z649456), (6, .int 1), (0, .int g649423), (1, .int p649104), (2, .ref q649102)]) z649456 0 dr_cJ6_getChars_ba4f3_92 rfl hz649456.symm (Nat.le_of_ble_eq_true rfl) rfl ?_
            refine G_iload 0 dr_cJ6_getChars_ba4f3_95 rfl ?_
            refine G_gets dr_cJ6_getChars_ba4f3_97 wr_8_120 gr_te (fun x649458 hx649457 => ?_)
            subst hx649457
            refine G_iload_n 2 dr_cJ6_getChars_ba4f3_100 rfl ?_
            refine G_ineg dr_cJ6_getChars_ba4f3_101 (G_nam fun z649459 hz649459 => ?_)
            have ez649459 : z649459.toInt = -g649423.toInt := gI_neg hz649459 bg649423'' (by decide)
            have bz649459 : gB z649459 10 99 := ⟨by omega, by omega⟩
            refine G_kbald (f := dg_T) dr_cJ6_getChars_ba4f3_102 gr_tet (gB_inr (by omega) (by omega)) (G_nam fun z649460 hz649460 => ?_)
            have bz649460 : gB z649460 (-2147483648) 2147483647 := gB_any z649460
            refine Gp_bast 1 hmq649102 he649443 dr_cJ6_getChars_ba4f3_103 rfl (gB_inr (by omega) (by omega)) (fun F649461 e649462 n649463 => ?_)
            obtain ⟨f649464, hf649464⟩ : ∃ z, z = upd f649442 z649456.toNatClampNeg (vp_nar .byte z649460) := ⟨_, rfl⟩
            rw [← hf649464] at e649462
            have he649465 : F649461 q649102 = .inl (I .byte, n649106, .inl f649464) := e649462
            have hfr649466 : rFr [q649102] P649100 F649101 F649461 := rFr_put' List.mem_cons_self hfr649444 n649463
            have bf649464 : gF f649464 (-128) 127 := gF_upd hf649464 bf649442 gB_byte
            refine G_iload 1 dr_cJ6_getChars_ba4f3_104 rfl ?_
            refine G_if_eq 118 dr_cJ6_getChars_ba4f3_106 (by decide +kernel) (fun hc => absurd hc (by decide)) (fun _ => ?_)
            refine G_aload_n 4 dr_cJ6_getChars_ba4f3_109 rfl ?_
            have bz649456' : gB z649456 1 16777214 := ⟨by omega, by omega⟩
            obtain ⟨z649467, hz649467⟩ : ∃ z : Int32, z = z649456 + Int32.ofInt (-1) := ⟨_, rfl⟩
            have ez649467 : z649467.toInt = z649456.toInt + (-1) := gI_inc hz649467 (by decide) bz649456' (by decide) (by decide)
            have bz649467 : gB z649467 0 16777213 := ⟨by omega, by omega⟩
            refine G_iinc (L' := [(5, .int z649467), (6, .int 1), (0, .int g649423), (1, .int p649104), (2, .ref q649102)]) z649467 0 dr_cJ6_getChars_ba4f3_110 rfl hz649467.symm (Nat.le_of_ble_eq_true rfl) rfl ?_
            refine G_iload 0 dr_cJ6_getChars_ba4f3_113 rfl ?_
            refine G_bipush 45 dr_cJ6_getChars_ba4f3_115 (by decide +kernel) ?_
            refine Gp_bast 1 hmq649102 he649465 dr_cJ6_getChars_ba4f3_117 rfl (gB_inr (by omega) (by omega)) (fun F649468 e649469 n649470 => ?_)
            obtain ⟨f649471, hf649471⟩ : ∃ z, z = upd f649464 z649467.toNatClampNeg (vp_nar .byte 45) := ⟨_, rfl⟩
            rw [← hf649471] at e649469
            have he649472 : F649468 q649102 = .inl (I .byte, n649106, .inl f649471) := e649469
            have hfr649473 : rFr [q649102] P649100 F649101 F649468 := rFr_put' List.mem_cons_self hfr649466 n649470
            have bf649471 : gF f649471 (-128) 127 := gF_upd hf649471 bf649464 gB_byte
            refine G_iload 0 dr_cJ6_getChars_ba4f3_118 rfl ?_
            exact G_iretA dr_cJ6_getChars_ba4f3_120 rfl (Nat.le_of_ble_eq_true rfl) (Nat.le_of_ble_eq_true rfl) ⟨F649468, z649467, f649471, rfl, rfl, hfr649473, he649472, (Nat.le_of_ble_eq_true rfl), (Nat.le_of_ble_eq_true rfl), (gB_w bz649467 (by decide) (by decide)), bf649471⟩
        · have r649474 : g649423.toInt ≤ (-100) := gj_nltL hc649431 (show Int32.toInt (-100) = (-100) by decide)
          have bg649423' : gB g649423 (-2147483648) (-100) := ⟨by omega, by omega⟩
          have x649475 : (3 : Int) ≤ (g649422.toInt - 1) := dgB_3 x649429 (by omega)
          refine G_iload_n 2 dr_cJ6_getChars_ba4f3_28 rfl ?_
          refine G_bipush 100 dr_cJ6_getChars_ba4f3_29 (by decide +kernel) ?_
          refine G_idiv dr_cJ6_getChars_ba4f3_31 (by decide) (G_nam fun z649476 hz649476 => ?_)
          have ez649476 : z649476.toInt = -((-g649423.toInt) / 100) := gI_divn hz649476 bg649423' (by decide) (by decide) (by decide)
          have bz649476 : gB z649476 (-21474836) (-1) := ⟨by omega, by omega⟩
          refine G_istore_n (L' := [(3, .int z649476), (6, .int 1), (5, .int g649422), (0, .int g649423), (1, .int p649104), (2, .ref q649102)]) dr_cJ6_getChars_ba4f3_32 (Nat.le_of_ble_eq_true rfl) rfl ?_
          refine G_iload_n 0 dr_cJ6_getChars_ba4f3_33 rfl ?_
          refine G_bipush 100 dr_cJ6_getChars_ba4f3_34 (by decide +kernel) ?_
          refine G_imul dr_cJ6_getChars_ba4f3_36 (G_nam fun z649477 hz649477 => ?_)
          have ez649477 : z649477.toInt = z649476.toInt * 100 := gI_mulK hz649477 (by decide) (by omega) (by omega)
          have bz649477 : gB z649477 (-2147483600) (-100) := ⟨by omega, by omega⟩
          refine G_iload_n 3 dr_cJ6_getChars_ba4f3_37 rfl ?_
          refine G_isub dr_cJ6_getChars_ba4f3_38 (G_nam fun z649478 hz649478 => ?_)
          have ez649478 : z649478.toInt = z649477.toInt - g649423.toInt := by rw [gI_sub hz649478 bz649477 bg649423' (by decide) (by decide)]
          have bz649478 : gB z649478 (-2147483500) 2147483548 := gB_sub (gI_sub hz649478 bz649477 bg649423' (by decide) (by decide)) bz649477 bg649423' (by decide) (by decide)
          refine G_istore (L' := [(4, .int z649478), (3, .int z649476), (6, .int 1), (5, .int g649422), (0, .int g649423), (1, .int p649104), (2, .ref q649102)]) dr_cJ6_getChars_ba4f3_39 (Nat.le_of_ble_eq_true rfl) rfl ?_
          refine G_iload_n 1 dr_cJ6_getChars_ba4f3_41 rfl ?_
          refine G_istore_n (L' := [(0, .int z649476), (4, .int z649478), (3, .int z649476), (6, .int 1), (5, .int g649422), (1, .int p649104), (2, .ref q649102)]) dr_cJ6_getChars_ba4f3_42 (Nat.le_of_ble_eq_true rfl) rfl ?_
          refine G_aload_n 6 dr_cJ6_getChars_ba4f3_43 rfl ?_
          have bg649422' : gB g649422 2 16777216 := ⟨by omega, by omega⟩
          obtain ⟨z649479, hz649479⟩ : ∃ z : Int32, z = g649422 + Int32.ofInt (-1) := ⟨_, rfl⟩
          have ez649479 : z649479.toInt = g649422.toInt + (-1) := gI_inc hz649479 (by decide) bg649422' (by decide) (by decide)
          have bz649479 : gB z649479 1 16777215 := ⟨by omega, by omega⟩
          refine G_iinc (L' := [(5, .int z649479), (0, .int z649476), (4, .int z649478), (3, .int z649476), (6, .int 1), (1, .int p649104), (2, .ref q649102)]) z649479 4 dr_cJ6_getChars_ba4f3_44 rfl hz649479.symm (Nat.le_of_ble_eq_true rfl) rfl ?_
          refine G_iload 0 dr_cJ6_getChars_ba4f3_47 rfl ?_
          refine G_gets dr_cJ6_getChars_ba4f3_49 wr_8_118 gr_on (fun x649481 hx649480 => ?_)
          subst hx649480
          refine G_iload 2 dr_cJ6_getChars_ba4f3_52 rfl ?_
          refine G_kbald (f := dg_O) dr_cJ6_getChars_ba4f3_54 gr_ont (gB_inr (by omega) (by omega)) (G_nam fun z649482 hz649482 => ?_)
          have bz649482 : gB z649482 (-2147483648) 2147483647 := gB_any z649482
          refine Gp_bast 1 hmq649102 he649426 dr_cJ6_getChars_ba4f3_55 rfl (gB_inr (by omega) (by omega)) (fun F649483 e649484 n649485 => ?_)
          obtain ⟨f649486, hf649486⟩ : ∃ z, z = upd f649424 z649479.toNatClampNeg (vp_nar .byte z649482) := ⟨_, rfl⟩
          rw [← hf649486] at e649484
          have he649487 : F649483 q649102 = .inl (I .byte, n649106, .inl f649486) := e649484
          have hfr649488 : rFr [q649102] P649100 F649101 F649483 := rFr_put' List.mem_cons_self hfr649427 n649485
          have bf649486 : gF f649486 (-128) 127 := gF_upd hf649486 bf649424 gB_byte
          refine G_aload_n 6 dr_cJ6_getChars_ba4f3_56 rfl ?_
          obtain ⟨z649489, hz649489⟩ : ∃ z : Int32, z = z649479 + Int32.ofInt (-1) := ⟨_, rfl⟩
          have ez649489 : z649489.toInt = z649479.toInt + (-1) := gI_inc hz649489 (by decide) bz649479 (by decide) (by decide)
          have bz649489 : gB z649489 0 16777214 := ⟨by omega, by omega⟩
          refine G_iinc (L' := [(5, .int z649489), (0, .int z649476), (4, .int z649478), (3, .int z649476), (6, .int 1), (1, .int p649104), (2, .ref q649102)]) z649489 0 dr_cJ6_getChars_ba4f3_57 rfl hz649489.symm (Nat.le_of_ble_eq_true rfl) rfl ?_
          refine G_iload 0 dr_cJ6_getChars_ba4f3_60 rfl ?_
          refine G_gets dr_cJ6_getChars_ba4f3_62 wr_8_120 gr_te (fun x649491 hx649490 => ?_)
          subst hx649490
          refine G_iload 2 dr_cJ6_getChars_ba4f3_65 rfl ?_
          refine G_kbald (f := dg_T) dr_cJ6_getChars_ba4f3_67 gr_tet (gB_inr (by omega) (by omega)) (G_nam fun z649492 hz649492 => ?_)
          have bz649492 : gB z649492 (-2147483648) 2147483647 := gB_any z649492
          refine Gp_bast 1 hmq649102 he649487 dr_cJ6_getChars_ba4f3_68 rfl (gB_inr (by omega) (by omega)) (fun F649493 e649494 n649495 => ?_)
          obtain ⟨f649496, hf649496⟩ : ∃ z, z = upd f649486 z649489.toNatClampNeg (vp_nar .byte z649492) := ⟨_, rfl⟩
          rw [← hf649496] at e649494
          have he649497 : F649493 q649102 = .inl (I .byte, n649106, .inl f649496) := e649494
          have hfr649498 : rFr [q649102] P649100 F649101 F649493 := rFr_put' List.mem_cons_self hfr649488 n649495
          have bf649496 : gF f649496 (-128) 127 := gF_upd hf649496 bf649486 gB_byte
          refine G_goto 22 dr_cJ6_getChars_ba4f3_69 (by decide +kernel) ?_
          refine G_lv (L' := [(6, .int 1), (5, .int z649489), (0, .int z649476), (1, .int p649104), (2, .ref q649102)]) [4, 0, 1, 5, 6] rfl ?_
          exact ih22_649430 F649493 z649489 z649476 f649496 (gB_w bz649489 (by decide) (by decide)) (gB_w bz649476 (by decide) (by decide)) bf649496 hfr649498 he649497 (by have qa0 : Int32.toInt 1 = 1 := (by decide); omega) (by have q10 : Int32.toInt 10 = 10 := (by decide); have q11 : Int32.toInt 11 = 11 := (by decide); first | exact dgB_up (dgS_ip x649108 (by omega) (by omega)) (by omega) (by omega) | exact dgB_up (dgS_in x649108 (by omega)) (by omega) (by omega) | exact dgB_up x649429 (by omega) (by omega) | exact dgB_up (dgB_st x649429 (by omega) (by omega) (by omega)) (by omega) (by omega)) (by have qa0 : Int32.toInt 1 = 1 := (by decide); omega) (by have qa0 : Int32.toInt 1 = 1 := (by decide); omega)
    exact hlp22_649430 ((-p649103.toInt).toNat + 1) F649101 p649104 p649103 f649105 bp649104 bp649103' bf649105 (rFr_v (rFr_rf (W := []) (P := P649100) (F := F649101)) (fun b hn => nm_n)) heq649102 (by have qa0 : Int32.toInt 1 = 1 := (by decide); omega) (by have q10 : Int32.toInt 10 = 10 := (by decide); have q11 : Int32.toInt 11 = 11 := (by decide); first | exact dgB_up (dgS_ip x649108 (by omega) (by omega)) (by omega) (by omega) | exact dgB_up (dgS_in x649108 (by omega)) (by omega) (by omega)) (by have qa0 : Int32.toInt 1 = 1 := (by decide); omega) (Nat.lt_succ_self _)
