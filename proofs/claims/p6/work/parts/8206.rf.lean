theorem dr_cJ1_indexOf_b82b6_0 : decode cJ1_indexOf_b82b6 0 = .ok (.aload_n 1, 1) := by decide +kernel
theorem dr_cJ1_indexOf_b82b6_1 : decode cJ1_indexOf_b82b6 1 = .ok (.arraylength, 1) := by decide +kernel
theorem dr_cJ1_indexOf_b82b6_2 : decode cJ1_indexOf_b82b6 2 = .ok (.ifCond .ne 5, 3) := by decide +kernel
theorem dr_cJ1_indexOf_b82b6_7 : decode cJ1_indexOf_b82b6 7 = .ok (.aload_n 0, 1) := by decide +kernel
theorem dr_cJ1_indexOf_b82b6_8 : decode cJ1_indexOf_b82b6 8 = .ok (.arraylength, 1) := by decide +kernel
theorem dr_cJ1_indexOf_b82b6_9 : decode cJ1_indexOf_b82b6 9 = .ok (.ifCond .ne 5, 3) := by decide +kernel
theorem dr_cJ1_indexOf_b82b6_14 : decode cJ1_indexOf_b82b6 14 = .ok (.aload_n 0, 1) := by decide +kernel
theorem dr_cJ1_indexOf_b82b6_15 : decode cJ1_indexOf_b82b6 15 = .ok (.aload_n 0, 1) := by decide +kernel
theorem dr_cJ1_indexOf_b82b6_16 : decode cJ1_indexOf_b82b6 16 = .ok (.arraylength, 1) := by decide +kernel
theorem dr_cJ1_indexOf_b82b6_17 : decode cJ1_indexOf_b82b6 17 = .ok (.aload_n 1, 1) := by decide +kernel
theorem dr_cJ1_indexOf_b82b6_18 : decode cJ1_indexOf_b82b6 18 = .ok (.aload_n 1, 1) := by decide +kernel
theorem dr_cJ1_indexOf_b82b6_19 : decode cJ1_indexOf_b82b6 19 = .ok (.arraylength, 1) := by decide +kernel
theorem dr_cJ1_indexOf_b82b6_20 : decode cJ1_indexOf_b82b6 20 = .ok (.iconst 0, 1) := by decide +kernel
theorem dr_cJ1_indexOf_b82b6_21 : decode cJ1_indexOf_b82b6 21 = .ok (.invokestatic 99, 3) := by decide +kernel
theorem wr_8_203 : (Jvm.Cond.methodLink "java/lang/StringLatin1" (99 : Nat) ({ cls := "java/lang/StringLatin1", name := "indexOf", desc := "([BI[BII)I" } : Jvm.MethodName)) ∈ gw := gw_8 203 rfl rfl
theorem wr_8_205 : (Jvm.Cond.code ({ cls := "java/lang/StringLatin1", name := "indexOf", desc := "([BI[BII)I" } : Jvm.MethodName) prog_37_method_25_code (11 : Nat) (Option.some Jvm.ClassFile.FieldType.int)) ∈ gw := gw_8 205 rfl rfl
theorem wr_8_204 : (Jvm.Cond.static ({ cls := "java/lang/StringLatin1", name := "indexOf", desc := "([BI[BII)I" } : Jvm.MethodName)) ∈ gw := gw_8 204 rfl rfl
theorem dr_cJ1_indexOf_b82b6_24 : decode cJ1_indexOf_b82b6 24 = .ok (.ireturn, 1) := by decide +kernel
theorem dr_cJ1_indexOf_b82b6_12 : decode cJ1_indexOf_b82b6 12 = .ok (.iconst (-1), 1) := by decide +kernel
theorem dr_cJ1_indexOf_b82b6_13 : decode cJ1_indexOf_b82b6 13 = .ok (.ireturn, 1) := by decide +kernel
theorem dr_cJ0_indexOf_2f485_0 : decode cJ0_indexOf_2f485 0 = .ok (.aload_n 0, 1) := by decide +kernel
theorem dr_cJ0_indexOf_2f485_1 : decode cJ0_indexOf_2f485 1 = .ok (.invokevirtual 335, 3) := by decide +kernel
theorem dr_cJ0_indexOf_2f485_4 : decode cJ0_indexOf_2f485 4 = .ok (.istore_n 2, 1) := by decide +kernel
theorem dr_cJ0_indexOf_2f485_5 : decode cJ0_indexOf_2f485 5 = .ok (.iload_n 2, 1) := by decide +kernel
theorem dr_cJ0_indexOf_2f485_6 : decode cJ0_indexOf_2f485 6 = .ok (.aload_n 1, 1) := by decide +kernel
theorem dr_cJ0_indexOf_2f485_7 : decode cJ0_indexOf_2f485 7 = .ok (.invokevirtual 335, 3) := by decide +kernel
theorem dr_cJ0_indexOf_2f485_10 : decode cJ0_indexOf_2f485 10 = .ok (.if_icmp .ne 36, 3) := by decide +kernel
theorem dr_cJ0_indexOf_2f485_13 : decode cJ0_indexOf_2f485 13 = .ok (.aload_n 0, 1) := by decide +kernel
theorem dr_cJ0_indexOf_2f485_14 : decode cJ0_indexOf_2f485 14 = .ok (.invokevirtual 492, 3) := by decide +kernel
theorem dr_cJ0_indexOf_2f485_17 : decode cJ0_indexOf_2f485 17 = .ok (.ifCond .eq 17, 3) := by decide +kernel
theorem dr_cJ0_indexOf_2f485_20 : decode cJ0_indexOf_2f485 20 = .ok (.aload_n 0, 1) := by decide +kernel
theorem dr_cJ0_indexOf_2f485_21 : decode cJ0_indexOf_2f485 21 = .ok (.getfield 9, 3) := by decide +kernel
theorem dr_cJ0_indexOf_2f485_24 : decode cJ0_indexOf_2f485 24 = .ok (.aload_n 1, 1) := by decide +kernel
theorem dr_cJ0_indexOf_2f485_25 : decode cJ0_indexOf_2f485 25 = .ok (.getfield 9, 3) := by decide +kernel
theorem dr_cJ0_indexOf_2f485_28 : decode cJ0_indexOf_2f485 28 = .ok (.invokestatic 647, 3) := by decide +kernel
theorem wr_8_200 : (Jvm.Cond.methodLink "java/lang/String" (647 : Nat) ({ cls := "java/lang/StringLatin1", name := "indexOf", desc := "([B[B)I" } : Jvm.MethodName)) ∈ gw := gw_8 200 rfl rfl
theorem wr_8_202 : (Jvm.Cond.code ({ cls := "java/lang/StringLatin1", name := "indexOf", desc := "([B[B)I" } : Jvm.MethodName) prog_37_method_24_code (2 : Nat) (Option.some Jvm.ClassFile.FieldType.int)) ∈ gw := gw_8 202 rfl rfl
theorem wr_8_201 : (Jvm.Cond.static ({ cls := "java/lang/StringLatin1", name := "indexOf", desc := "([B[B)I" } : Jvm.MethodName)) ∈ gw := gw_8 201 rfl rfl
theorem dr_cJ0_indexOf_2f485_31 : decode cJ0_indexOf_2f485 31 = .ok (.goto 14, 3) := by decide +kernel
theorem dr_cJ0_indexOf_2f485_45 : decode cJ0_indexOf_2f485 45 = .ok (.ireturn, 1) := by decide +kernel
theorem dr_cJ1_canEncode_9a6ad_0 : decode cJ1_canEncode_9a6ad 0 = .ok (.iload_n 0, 1) := by decide +kernel
theorem dr_cJ1_canEncode_9a6ad_1 : decode cJ1_canEncode_9a6ad 1 = .ok (.ifCond .lt 14, 3) := by decide +kernel
theorem dr_cJ1_canEncode_9a6ad_15 : decode cJ1_canEncode_9a6ad 15 = .ok (.iconst 0, 1) := by decide +kernel
theorem dr_cJ1_canEncode_9a6ad_16 : decode cJ1_canEncode_9a6ad 16 = .ok (.ireturn, 1) := by decide +kernel
theorem dr_cJ1_canEncode_9a6ad_4 : decode cJ1_canEncode_9a6ad 4 = .ok (.iload_n 0, 1) := by decide +kernel
theorem dr_cJ1_canEncode_9a6ad_5 : decode cJ1_canEncode_9a6ad 5 = .ok (.sipush 255, 3) := by decide +kernel
theorem dr_cJ1_canEncode_9a6ad_8 : decode cJ1_canEncode_9a6ad 8 = .ok (.if_icmp .gt 7, 3) := by decide +kernel
theorem dr_cJ1_canEncode_9a6ad_11 : decode cJ1_canEncode_9a6ad 11 = .ok (.iconst 1, 1) := by decide +kernel
theorem dr_cJ1_canEncode_9a6ad_12 : decode cJ1_canEncode_9a6ad 12 = .ok (.goto 4, 3) := by decide +kernel
theorem dr_cJ1_indexOfChar_4cfef_0 : decode cJ1_indexOfChar_4cfef 0 = .ok (.iload_n 1, 1) := by decide +kernel
theorem dr_cJ1_indexOfChar_4cfef_1 : decode cJ1_indexOfChar_4cfef 1 = .ok (.i2b, 1) := by decide +kernel
theorem dr_cJ1_indexOfChar_4cfef_2 : decode cJ1_indexOfChar_4cfef 2 = .ok (.istore 4, 2) := by decide +kernel
theorem dr_cJ1_indexOfChar_4cfef_4 : decode cJ1_indexOfChar_4cfef 4 = .ok (.iload_n 2, 1) := by decide +kernel
theorem dr_cJ1_indexOfChar_4cfef_5 : decode cJ1_indexOfChar_4cfef 5 = .ok (.istore 5, 2) := by decide +kernel
theorem dr_cJ1_indexOfChar_4cfef_7 : decode cJ1_indexOfChar_4cfef 7 = .ok (.iload 5, 2) := by decide +kernel
theorem dr_cJ1_indexOfChar_4cfef_9 : decode cJ1_indexOfChar_4cfef 9 = .ok (.iload_n 3, 1) := by decide +kernel
theorem dr_cJ1_indexOfChar_4cfef_10 : decode cJ1_indexOfChar_4cfef 10 = .ok (.if_icmp .ge 21, 3) := by decide +kernel
theorem dr_cJ1_indexOfChar_4cfef_31 : decode cJ1_indexOfChar_4cfef 31 = .ok (.iconst (-1), 1) := by decide +kernel
theorem dr_cJ1_indexOfChar_4cfef_32 : decode cJ1_indexOfChar_4cfef 32 = .ok (.ireturn, 1) := by decide +kernel
theorem dr_cJ1_indexOfChar_4cfef_13 : decode cJ1_indexOfChar_4cfef 13 = .ok (.aload_n 0, 1) := by decide +kernel
theorem dr_cJ1_indexOfChar_4cfef_14 : decode cJ1_indexOfChar_4cfef 14 = .ok (.iload 5, 2) := by decide +kernel
theorem dr_cJ1_indexOfChar_4cfef_16 : decode cJ1_indexOfChar_4cfef 16 = .ok (.baload, 1) := by decide +kernel
theorem dr_cJ1_indexOfChar_4cfef_17 : decode cJ1_indexOfChar_4cfef 17 = .ok (.iload 4, 2) := by decide +kernel
theorem dr_cJ1_indexOfChar_4cfef_19 : decode cJ1_indexOfChar_4cfef 19 = .ok (.if_icmp .ne 6, 3) := by decide +kernel
theorem dr_cJ1_indexOfChar_4cfef_25 : decode cJ1_indexOfChar_4cfef 25 = .ok (.iinc 5 1, 3) := by decide +kernel
theorem dr_cJ1_indexOfChar_4cfef_28 : decode cJ1_indexOfChar_4cfef 28 = .ok (.goto (-21), 3) := by decide +kernel
theorem dr_cJ1_indexOfChar_4cfef_22 : decode cJ1_indexOfChar_4cfef 22 = .ok (.iload 5, 2) := by decide +kernel
theorem dr_cJ1_indexOfChar_4cfef_24 : decode cJ1_indexOfChar_4cfef 24 = .ok (.ireturn, 1) := by decide +kernel
theorem dr_cJ1_indexOf_4cfef_0 : decode cJ1_indexOf_4cfef 0 = .ok (.iload_n 1, 1) := by decide +kernel
theorem dr_cJ1_indexOf_4cfef_1 : decode cJ1_indexOf_4cfef 1 = .ok (.invokestatic 88, 3) := by decide +kernel
theorem wr_9_2 : (Jvm.Cond.methodLink "java/lang/StringLatin1" (88 : Nat) ({ cls := "java/lang/StringLatin1", name := "canEncode", desc := "(I)Z" } : Jvm.MethodName)) ∈ gw := gw_9 2 rfl rfl
theorem wr_9_4 : (Jvm.Cond.code ({ cls := "java/lang/StringLatin1", name := "canEncode", desc := "(I)Z" } : Jvm.MethodName) prog_37_method_4_code (1 : Nat) (Option.some Jvm.ClassFile.FieldType.boolean)) ∈ gw := gw_9 4 rfl rfl
theorem wr_9_3 : (Jvm.Cond.static ({ cls := "java/lang/StringLatin1", name := "canEncode", desc := "(I)Z" } : Jvm.MethodName)) ∈ gw := gw_9 3 rfl rfl
theorem dr_cJ1_indexOf_4cfef_4 : decode cJ1_indexOf_4cfef 4 = .ok (.ifCond .ne 5, 3) := by decide +kernel
theorem dr_cJ1_indexOf_4cfef_7 : decode cJ1_indexOf_4cfef 7 = .ok (.iconst (-1), 1) := by decide +kernel
theorem dr_cJ1_indexOf_4cfef_8 : decode cJ1_indexOf_4cfef 8 = .ok (.ireturn, 1) := by decide +kernel
theorem dr_cJ1_indexOf_4cfef_9 : decode cJ1_indexOf_4cfef 9 = .ok (.iload_n 2, 1) := by decide +kernel
theorem dr_cJ1_indexOf_4cfef_10 : decode cJ1_indexOf_4cfef 10 = .ok (.iconst 0, 1) := by decide +kernel
theorem dr_cJ1_indexOf_4cfef_11 : decode cJ1_indexOf_4cfef 11 = .ok (.invokestatic 92, 3) := by decide +kernel
theorem wr_9_5 : (Jvm.Cond.methodLink "java/lang/StringLatin1" (92 : Nat) ({ cls := "java/lang/Math", name := "max", desc := "(II)I" } : Jvm.MethodName)) ∈ gw := gw_9 5 rfl rfl
theorem dr_cJ1_indexOf_4cfef_14 : decode cJ1_indexOf_4cfef 14 = .ok (.istore_n 2, 1) := by decide +kernel
theorem dr_cJ1_indexOf_4cfef_15 : decode cJ1_indexOf_4cfef 15 = .ok (.iload_n 3, 1) := by decide +kernel
theorem dr_cJ1_indexOf_4cfef_16 : decode cJ1_indexOf_4cfef 16 = .ok (.aload_n 0, 1) := by decide +kernel
theorem dr_cJ1_indexOf_4cfef_17 : decode cJ1_indexOf_4cfef 17 = .ok (.arraylength, 1) := by decide +kernel
theorem dr_cJ1_indexOf_4cfef_18 : decode cJ1_indexOf_4cfef 18 = .ok (.invokestatic 38, 3) := by decide +kernel
theorem wr_9_6 : (Jvm.Cond.methodLink "java/lang/StringLatin1" (38 : Nat) ({ cls := "java/lang/Math", name := "min", desc := "(II)I" } : Jvm.MethodName)) ∈ gw := gw_9 6 rfl rfl
theorem dr_cJ1_indexOf_4cfef_21 : decode cJ1_indexOf_4cfef 21 = .ok (.istore_n 3, 1) := by decide +kernel
theorem dr_cJ1_indexOf_4cfef_22 : decode cJ1_indexOf_4cfef 22 = .ok (.iload_n 2, 1) := by decide +kernel
theorem dr_cJ1_indexOf_4cfef_23 : decode cJ1_indexOf_4cfef 23 = .ok (.iload_n 3, 1) := by decide +kernel
theorem dr_cJ1_indexOf_4cfef_24 : decode cJ1_indexOf_4cfef 24 = .ok (.if_icmp .lt 5, 3) := by decide +kernel
theorem dr_cJ1_indexOf_4cfef_29 : decode cJ1_indexOf_4cfef 29 = .ok (.aload_n 0, 1) := by decide +kernel
theorem dr_cJ1_indexOf_4cfef_30 : decode cJ1_indexOf_4cfef 30 = .ok (.iload_n 1, 1) := by decide +kernel
theorem dr_cJ1_indexOf_4cfef_31 : decode cJ1_indexOf_4cfef 31 = .ok (.iload_n 2, 1) := by decide +kernel
theorem dr_cJ1_indexOf_4cfef_32 : decode cJ1_indexOf_4cfef 32 = .ok (.iload_n 3, 1) := by decide +kernel
theorem dr_cJ1_indexOf_4cfef_33 : decode cJ1_indexOf_4cfef 33 = .ok (.invokestatic 95, 3) := by decide +kernel
theorem wr_9_7 : (Jvm.Cond.methodLink "java/lang/StringLatin1" (95 : Nat) ({ cls := "java/lang/StringLatin1", name := "indexOfChar", desc := "([BIII)I" } : Jvm.MethodName)) ∈ gw := gw_9 7 rfl rfl
theorem wr_9_9 : (Jvm.Cond.code ({ cls := "java/lang/StringLatin1", name := "indexOfChar", desc := "([BIII)I" } : Jvm.MethodName) prog_37_method_23_code (6 : Nat) (Option.some Jvm.ClassFile.FieldType.int)) ∈ gw := gw_9 9 rfl rfl
theorem wr_9_8 : (Jvm.Cond.static ({ cls := "java/lang/StringLatin1", name := "indexOfChar", desc := "([BIII)I" } : Jvm.MethodName)) ∈ gw := gw_9 8 rfl rfl
theorem dr_cJ1_indexOf_4cfef_36 : decode cJ1_indexOf_4cfef 36 = .ok (.ireturn, 1) := by decide +kernel
theorem dr_cJ1_indexOf_4cfef_27 : decode cJ1_indexOf_4cfef 27 = .ok (.iconst (-1), 1) := by decide +kernel
theorem dr_cJ1_indexOf_4cfef_28 : decode cJ1_indexOf_4cfef 28 = .ok (.ireturn, 1) := by decide +kernel
theorem dr_cJ0_indexOf_7cf53_0 : decode cJ0_indexOf_7cf53 0 = .ok (.aload_n 0, 1) := by decide +kernel
theorem dr_cJ0_indexOf_7cf53_1 : decode cJ0_indexOf_7cf53 1 = .ok (.invokevirtual 492, 3) := by decide +kernel
theorem dr_cJ0_indexOf_7cf53_4 : decode cJ0_indexOf_7cf53 4 = .ok (.ifCond .eq 19, 3) := by decide +kernel
theorem dr_cJ0_indexOf_7cf53_7 : decode cJ0_indexOf_7cf53 7 = .ok (.aload_n 0, 1) := by decide +kernel
theorem dr_cJ0_indexOf_7cf53_8 : decode cJ0_indexOf_7cf53 8 = .ok (.getfield 9, 3) := by decide +kernel
theorem dr_cJ0_indexOf_7cf53_11 : decode cJ0_indexOf_7cf53 11 = .ok (.iload_n 1, 1) := by decide +kernel
theorem dr_cJ0_indexOf_7cf53_12 : decode cJ0_indexOf_7cf53 12 = .ok (.iload_n 2, 1) := by decide +kernel
theorem dr_cJ0_indexOf_7cf53_13 : decode cJ0_indexOf_7cf53 13 = .ok (.aload_n 0, 1) := by decide +kernel
theorem dr_cJ0_indexOf_7cf53_14 : decode cJ0_indexOf_7cf53 14 = .ok (.invokevirtual 505, 3) := by decide +kernel
theorem wr_8_238 : (Jvm.Cond.methodLink "java/lang/String" (505 : Nat) ({ cls := "java/lang/String", name := "length", desc := "()I" } : Jvm.MethodName)) ∈ gw := gw_8 238 rfl rfl
theorem dr_cJ0_indexOf_7cf53_17 : decode cJ0_indexOf_7cf53 17 = .ok (.invokestatic 637, 3) := by decide +kernel
theorem wr_8_239 : (Jvm.Cond.methodLink "java/lang/String" (637 : Nat) ({ cls := "java/lang/StringLatin1", name := "indexOf", desc := "([BIII)I" } : Jvm.MethodName)) ∈ gw := gw_8 239 rfl rfl
theorem wr_9_1 : (Jvm.Cond.code ({ cls := "java/lang/StringLatin1", name := "indexOf", desc := "([BIII)I" } : Jvm.MethodName) prog_37_method_22_code (4 : Nat) (Option.some Jvm.ClassFile.FieldType.int)) ∈ gw := gw_9 1 rfl rfl
theorem wr_9_0 : (Jvm.Cond.static ({ cls := "java/lang/StringLatin1", name := "indexOf", desc := "([BIII)I" } : Jvm.MethodName)) ∈ gw := gw_9 0 rfl rfl
theorem dr_cJ0_indexOf_7cf53_20 : decode cJ0_indexOf_7cf53 20 = .ok (.goto 16, 3) := by decide +kernel
theorem dr_cJ0_indexOf_7cf53_36 : decode cJ0_indexOf_7cf53 36 = .ok (.ireturn, 1) := by decide +kernel
theorem dr_cJ0_indexOf_0f7a4_0 : decode cJ0_indexOf_0f7a4 0 = .ok (.aload_n 0, 1) := by decide +kernel
theorem dr_cJ0_indexOf_0f7a4_1 : decode cJ0_indexOf_0f7a4 1 = .ok (.iload_n 1, 1) := by decide +kernel
theorem dr_cJ0_indexOf_0f7a4_2 : decode cJ0_indexOf_0f7a4 2 = .ok (.iconst 0, 1) := by decide +kernel
theorem dr_cJ0_indexOf_0f7a4_3 : decode cJ0_indexOf_0f7a4 3 = .ok (.invokevirtual 633, 3) := by decide +kernel
theorem wr_8_234 : (Jvm.Cond.methodLink "java/lang/String" (633 : Nat) ({ cls := "java/lang/String", name := "indexOf", desc := "(II)I" } : Jvm.MethodName)) ∈ gw := gw_8 234 rfl rfl
theorem wr_8_237 : (Jvm.Cond.code ({ cls := "java/lang/String", name := "indexOf", desc := "(II)I" } : Jvm.MethodName) prog_34_method_80_code (3 : Nat) (Option.some Jvm.ClassFile.FieldType.int)) ∈ gw := gw_8 237 rfl rfl
theorem wr_8_235 : (Jvm.Cond.instanceMethod ({ cls := "java/lang/String", name := "indexOf", desc := "(II)I" } : Jvm.MethodName)) ∈ gw := gw_8 235 rfl rfl
theorem wr_8_236 : (Jvm.Cond.selects "java/lang/String" ({ cls := "java/lang/String", name := "indexOf", desc := "(II)I" } : Jvm.MethodName) ({ cls := "java/lang/String", name := "indexOf", desc := "(II)I" } : Jvm.MethodName)) ∈ gw := gw_8 236 rfl rfl
theorem dr_cJ0_indexOf_0f7a4_6 : decode cJ0_indexOf_0f7a4 6 = .ok (.ireturn, 1) := by decide +kernel
theorem dr_cJ6_stringSize_0f7a4_0 : decode cJ6_stringSize_0f7a4 0 = .ok (.iconst 1, 1) := by decide +kernel
theorem dr_cJ6_stringSize_0f7a4_1 : decode cJ6_stringSize_0f7a4 1 = .ok (.istore_n 1, 1) := by decide +kernel
theorem dr_cJ6_stringSize_0f7a4_2 : decode cJ6_stringSize_0f7a4 2 = .ok (.iload_n 0, 1) := by decide +kernel
theorem dr_cJ6_stringSize_0f7a4_3 : decode cJ6_stringSize_0f7a4 3 = .ok (.ifCond .lt 8, 3) := by decide +kernel
theorem dr_cJ6_stringSize_0f7a4_11 : decode cJ6_stringSize_0f7a4 11 = .ok (.bipush (-10), 2) := by decide +kernel
theorem dr_cJ6_stringSize_0f7a4_13 : decode cJ6_stringSize_0f7a4 13 = .ok (.istore_n 2, 1) := by decide +kernel
theorem dr_cJ6_stringSize_0f7a4_14 : decode cJ6_stringSize_0f7a4 14 = .ok (.iconst 1, 1) := by decide +kernel
theorem dr_cJ6_stringSize_0f7a4_15 : decode cJ6_stringSize_0f7a4 15 = .ok (.istore_n 3, 1) := by decide +kernel
theorem dr_cJ6_stringSize_0f7a4_16 : decode cJ6_stringSize_0f7a4 16 = .ok (.iload_n 3, 1) := by decide +kernel
theorem dr_cJ6_stringSize_0f7a4_17 : decode cJ6_stringSize_0f7a4 17 = .ok (.bipush 10, 2) := by decide +kernel
theorem dr_cJ6_stringSize_0f7a4_19 : decode cJ6_stringSize_0f7a4 19 = .ok (.if_icmp .ge 23, 3) := by decide +kernel
theorem dr_cJ6_stringSize_0f7a4_42 : decode cJ6_stringSize_0f7a4 42 = .ok (.bipush 10, 2) := by decide +kernel
theorem dr_cJ6_stringSize_0f7a4_44 : decode cJ6_stringSize_0f7a4 44 = .ok (.iload_n 1, 1) := by decide +kernel
theorem dr_cJ6_stringSize_0f7a4_45 : decode cJ6_stringSize_0f7a4 45 = .ok (.iadd, 1) := by decide +kernel
theorem dr_cJ6_stringSize_0f7a4_46 : decode cJ6_stringSize_0f7a4 46 = .ok (.ireturn, 1) := by decide +kernel
theorem dr_cJ6_stringSize_0f7a4_22 : decode cJ6_stringSize_0f7a4 22 = .ok (.iload_n 0, 1) := by decide +kernel
theorem dr_cJ6_stringSize_0f7a4_23 : decode cJ6_stringSize_0f7a4 23 = .ok (.iload_n 2, 1) := by decide +kernel
theorem dr_cJ6_stringSize_0f7a4_24 : decode cJ6_stringSize_0f7a4 24 = .ok (.if_icmp .le 7, 3) := by decide +kernel
theorem dr_cJ6_stringSize_0f7a4_31 : decode cJ6_stringSize_0f7a4 31 = .ok (.bipush 10, 2) := by decide +kernel
theorem dr_cJ6_stringSize_0f7a4_33 : decode cJ6_stringSize_0f7a4 33 = .ok (.iload_n 2, 1) := by decide +kernel
theorem dr_cJ6_stringSize_0f7a4_34 : decode cJ6_stringSize_0f7a4 34 = .ok (.imul, 1) := by decide +kernel
theorem dr_cJ6_stringSize_0f7a4_35 : decode cJ6_stringSize_0f7a4 35 = .ok (.istore_n 2, 1) := by decide +kernel
theorem dr_cJ6_stringSize_0f7a4_36 : decode cJ6_stringSize_0f7a4 36 = .ok (.iinc 3 1, 3) := by decide +kernel
theorem dr_cJ6_stringSize_0f7a4_39 : decode cJ6_stringSize_0f7a4 39 = .ok (.goto (-23), 3) := by decide +kernel
theorem dr_cJ6_stringSize_0f7a4_27 : decode cJ6_stringSize_0f7a4 27 = .ok (.iload_n 3, 1) := by decide +kernel
theorem dr_cJ6_stringSize_0f7a4_28 : decode cJ6_stringSize_0f7a4 28 = .ok (.iload_n 1, 1) := by decide +kernel
theorem dr_cJ6_stringSize_0f7a4_29 : decode cJ6_stringSize_0f7a4 29 = .ok (.iadd, 1) := by decide +kernel
theorem dr_cJ6_stringSize_0f7a4_30 : decode cJ6_stringSize_0f7a4 30 = .ok (.ireturn, 1) := by decide +kernel
theorem dr_cJ6_stringSize_0f7a4_6 : decode cJ6_stringSize_0f7a4 6 = .ok (.iconst 0, 1) := by decide +kernel
theorem dr_cJ6_stringSize_0f7a4_7 : decode cJ6_stringSize_0f7a4 7 = .ok (.istore_n 1, 1) := by decide +kernel
theorem dr_cJ6_stringSize_0f7a4_8 : decode cJ6_stringSize_0f7a4 8 = .ok (.iload_n 0, 1) := by decide +kernel
theorem dr_cJ6_stringSize_0f7a4_9 : decode cJ6_stringSize_0f7a4 9 = .ok (.ineg, 1) := by decide +kernel
theorem dr_cJ6_stringSize_0f7a4_10 : decode cJ6_stringSize_0f7a4 10 = .ok (.istore_n 0, 1) := by decide +kernel
abbrev ky_660211_StringLatin1_indexOf : gKey := (cJ1_indexOf_b82b6, 2, "java/lang/StringLatin1", (some FieldType.int), [], "indexOf", fun _ _ => True)
def pp_660211_StringLatin1_indexOf (D : va_G) (I : FieldType → ClassId) (P660202 : List Nat) (F660203 : Nat → va_E) (q660204 : Nat) (qs660205 : Nat) (bs660206 : List Int32) (f660207 : Nat → Int32) (n660208 : Nat) : Option Value → va_W → Nat → Nat → Prop := fun r w dc ds => ∃ (o667244 : Int32), r = some (.int o667244) ∧ w = va_pl P660202 F660203 ∧ dc ≤ 0 ∧ ds ≤ 0 ∧ gB o667244 (-2147483646) 16777215 ∧ (o667244.toInt < 0 ∨ o667244.toInt + (n660208 : Int) ≤ (bs660206.length : Int)) ∧ ixP (fun j => bs660206.getD j 0) f660207 o667244 ∧ tr_RStringLatin1_indexOf bs660206 f660207 n660208 o667244
set_option maxRecDepth 100000 in
set_option maxHeartbeats 4000000 in
theorem cp_660211_StringLatin1_indexOf (l : Launch) (hl0 : l.stackTraces = false) (D : va_G) (I : FieldType → ClassId) (P660202 : List Nat) (F660203 : Nat → va_E) (q660204 : Nat) (qs660205 : Nat) (bs660206 : List Int32) (f660207 : Nat → Int32) (n660208 : Nat) (hmq660204 : q660204 ∈ P660202) (heq660204 : F660203 q660204 = .inl (I .byte, n660208, .inl f660207)) (hbs660206 : ∀ A s H, (gV D I).2.2.2.1 A s H → va_T .byte qs660205 bs660206.length (fun j => .int (bs660206.getD j 0)) A s H) (nbs660206 : (bs660206.length : Int) ≤ 65535) (lbs660206 : gLB bs660206) (bf660207 : gF f660207 (-128) 127) (x660209 : 1 ≤ (n660208 : Int)) (x660210 : ((n660208 : Int) ≤ 16777216)) : CtA (gV D I) l yJ1_indexOf_b82b6 cJ1_indexOf_b82b6 2 (some FieldType.int) 1 30 0 0 [.ref qs660205, .ref q660204] (va_pl P660202 F660203) (pp_660211_StringLatin1_indexOf D I P660202 F660203 q660204 qs660205 bs660206 f660207 n660208) gNA := by
  refine CtA_ofF hl0 (by decide +kernel) (Nat.le_of_ble_eq_true rfl) ?_
  refine G_aload_n 1 dr_cJ1_indexOf_b82b6_0 rfl ?_
  refine Gp_alen (Int32.ofNat n660208) 1 hmq660204 heq660204 dr_cJ1_indexOf_b82b6_1 rfl rfl (G_nam fun z660212 hz660212 => ?_)
  have ez660212 : z660212.toInt = (n660208 : Nat) := gI_ofM hz660212 (by omega)
  have bz660212 : gB z660212 0 16777216 := ⟨by omega, by omega⟩
  refine G_if_ne 7 dr_cJ1_indexOf_b82b6_2 (by decide +kernel) (fun hc660213 => ?_) (fun hc => absurd (show False by have := gj_eq hc (show Int32.toInt 0 = 0 by decide); omega) not_false)
  have r660215 : z660212.toInt ≠ 0 := gj_neq hc660213 (show Int32.toInt 0 = 0 by decide)
  have bz660212' : gB z660212 1 16777216 := ⟨by omega, by omega⟩
  refine G_aload_n 0 dr_cJ1_indexOf_b82b6_7 rfl ?_
  refine G_klen dr_cJ1_indexOf_b82b6_8 hbs660206 (G_nam fun z660216 hz660216 => ?_)
  have ez660216 : z660216.toInt = (bs660206.length : Int) := gI_ofN hz660216 nbs660206
  have bz660216 : gB z660216 0 65535 := ⟨by omega, by omega⟩
  refine G_if_ne 14 dr_cJ1_indexOf_b82b6_9 (by decide +kernel) (fun hc660217 => ?_) (fun hc660217 => ?_)
  · have r660218 : z660216.toInt ≠ 0 := gj_neq hc660217 (show Int32.toInt 0 = 0 by decide)
    have bz660216' : gB z660216 1 65535 := ⟨by omega, by omega⟩
    refine G_aload_n 0 dr_cJ1_indexOf_b82b6_14 rfl ?_
    refine G_aload_n 0 dr_cJ1_indexOf_b82b6_15 rfl ?_
    refine G_klen dr_cJ1_indexOf_b82b6_16 hbs660206 (G_nam fun z660219 hz660219 => ?_)
    have ez660219 : z660219.toInt = (bs660206.length : Int) := gI_ofN hz660219 nbs660206
    have bz660219 : gB z660219 0 65535 := ⟨by omega, by omega⟩
    refine G_aload_n 1 dr_cJ1_indexOf_b82b6_17 rfl ?_
    refine G_aload_n 1 dr_cJ1_indexOf_b82b6_18 rfl ?_
    refine Gp_alen (Int32.ofNat n660208) 1 hmq660204 heq660204 dr_cJ1_indexOf_b82b6_19 rfl rfl (G_nam fun z660220 hz660220 => ?_)
    have ez660220 : z660220.toInt = (n660208 : Nat) := gI_ofM hz660220 (by omega)
    have bz660220 : gB z660220 0 16777216 := ⟨by omega, by omega⟩
    refine G_iconst 0 dr_cJ1_indexOf_b82b6_20 (by decide +kernel) ?_
    refine Gw_callS (As := [.ref qs660205, .int z660219, .ref q660204, .int z660220, .int 0]) (gV_ok D I) (cp_660233_StringLatin1_indexOf l hl0 D I P660202 F660203 q660204 qs660205 bs660206 z660219 z660220 f660207 n660208 hmq660204 heq660204 hbs660206 nbs660206 lbs660206 (gB_w bz660219 (by decide) (by decide)) ⟨by omega, by omega⟩ bf660207 (by omega) (by omega) (by omega)) dr_cJ1_indexOf_b82b6_21 ⟨wr_8_203, wr_1_28, wr_8_205, by decide, rfl, (Nat.le_of_ble_eq_true rfl), (Nat.le_of_ble_eq_true rfl)⟩ wr_8_204 (show 0 + 0 ≤ 0 by first | omega | decide) (show 0 + 0 ≤ 0 by first | omega | decide) (Nat.le_of_ble_eq_true rfl) (fun r667237 w667238 dc667234 ds667235 hp667236 => ?_) (fun _ _ _ _ _ z => z.elim)
    obtain ⟨o667239, rfl, rfl, hdc, hds, bo667239, x667240, x667241, ht667242⟩ := hp667236
    change G _ _ _ _ _ _ _ (.int o667239 :: _) _ _ _
    refine G_widen (cs' := 0) (sl' := 0) (by omega) (by omega) ?_
    exact G_iretA dr_cJ1_indexOf_b82b6_24 rfl (Nat.le_of_ble_eq_true rfl) (Nat.le_of_ble_eq_true rfl) ⟨o667239, rfl, rfl, (Nat.le_of_ble_eq_true rfl), (Nat.le_of_ble_eq_true rfl), bo667239, (by omega), x667241, (fun R c1 c2 => c1 z660212 z660216 z660219 z660220 o667239 ez660212 r660215 ez660216 r660218 ez660219 ez660220 bo667239 ht667242)⟩
  · have r667243 : z660216.toInt = 0 := gj_eq hc660217 (show Int32.toInt 0 = 0 by decide)
    have bz660216' : gB z660216 0 0 := ⟨by omega, by omega⟩
    refine G_iconst (-1) dr_cJ1_indexOf_b82b6_12 (by decide +kernel) ?_
    exact G_iretA dr_cJ1_indexOf_b82b6_13 rfl (Nat.le_of_ble_eq_true rfl) (Nat.le_of_ble_eq_true rfl) ⟨(-1), rfl, rfl, (Nat.le_of_ble_eq_true rfl), (Nat.le_of_ble_eq_true rfl), (gB_w (gBl (show Int32.toInt (-1) = (-1) by decide)) (by decide) (by decide)), (by have qa0 : Int32.toInt (-1) = (-1) := (by decide); omega), (ixP_n (by decide)), (fun R c1 c2 => c2 z660212 z660216 ez660212 r660215 ez660216 r667243)⟩
/- tr_RString_indexOf: result -/
def tr_RString_indexOf (bs : List Int32) (a1_value_v : Nat → Int32) (a1_value_n : Nat) (o1 : Int32) : Prop := ∀ R : (Int32) → Prop,
  (∀ (x1 : Int32), gB x1 (-2147483646) 16777215 → tr_RStringLatin1_indexOf bs a1_value_v a1_value_n x1 → R x1) →
  R o1
abbrev ky_660186_String_indexOf : gKey := (cJ0_indexOf_2f485, 3, "java/lang/String", (some FieldType.int), [], "indexOf", fun _ _ => True)
def pp_660186_String_indexOf (D : va_G) (I : FieldType → ClassId) (P660173 : List Nat) (F660174 : Nat → va_E) (q660175 : Nat) (q660176 : Nat) (qs660177 : Nat) (qb660178 : Nat) (bs660179 : List Int32) (p660180 : Int32) (p660181 : Int32) (f660182 : Nat → Int32) (n660183 : Nat) : Option Value → va_W → Nat → Nat → Prop := fun r w dc ds => ∃ (o667254 : Int32), r = some (.int o667254) ∧ w = va_pl P660173 F660174 ∧ dc ≤ 0 ∧ ds ≤ 0 ∧ gB o667254 (-2147483646) 16777215 ∧ (o667254.toInt < 0 ∨ o667254.toInt + (n660183 : Int) ≤ (bs660179.length : Int)) ∧ ixP (fun j => bs660179.getD j 0) f660182 o667254 ∧ tr_RString_indexOf bs660179 f660182 n660183 o667254
set_option maxRecDepth 100000 in
set_option maxHeartbeats 4000000 in
theorem cp_660186_String_indexOf (l : Launch) (hl0 : l.stackTraces = false) (D : va_G) (I : FieldType → ClassId) (P660173 : List Nat) (F660174 : Nat → va_E) (q660175 : Nat) (q660176 : Nat) (qs660177 : Nat) (qb660178 : Nat) (bs660179 : List Int32) (p660180 : Int32) (p660181 : Int32) (f660182 : Nat → Int32) (n660183 : Nat) (hmq660175 : q660175 ∈ P660173) (hmq660176 : q660176 ∈ P660173) (heq660175 : F660174 q660175 = .inr (0, [.ref q660176, .int 0, .int p660180, .int p660181])) (heq660176 : F660174 q660176 = .inl (I .byte, n660183, .inl f660182)) (hbs660179 : ∀ A s H, (gV D I).2.2.2.1 A s H → gSC qs660177 qb660178 bs660179 A s H) (nbs660179 : (bs660179.length : Int) ≤ 65535) (lbs660179 : gLB bs660179) (bp660181 : gB p660181 0 1) (bf660182 : gF f660182 (-128) 127) (x660184 : 1 ≤ (n660183 : Int)) (x660185 : ((n660183 : Int) ≤ 16777216)) : CtA (gV D I) l yJ0_indexOf_2f485 cJ0_indexOf_2f485 3 (some FieldType.int) 2 51 0 0 [.ref qs660177, .ref q660175] (va_pl P660173 F660174) (pp_660186_String_indexOf D I P660173 F660174 q660175 q660176 qs660177 qb660178 bs660179 p660180 p660181 f660182 n660183) gNA := by
  refine CtA_ofF hl0 (by decide +kernel) (Nat.le_of_ble_eq_true rfl) ?_
  have bp660180 := gB_any p660180
  refine G_aload_n 0 dr_cJ0_indexOf_2f485_0 rfl ?_
  refine Gw_callVk (As := []) (gV_ok D I) (cp_659281_String_coder l hl0 D I P660173 F660174 qs660177 qb660178 bs660179 hbs660179 nbs660179 lbs660179) dr_cJ0_indexOf_2f485_1 ⟨wr_3_61, wr_1_21, wr_3_64, by decide, rfl, (Nat.le_of_ble_eq_true rfl), (Nat.le_of_ble_eq_true rfl)⟩ wr_3_62 wr_3_63 (fun _ _ _ h => (hbs660179 _ _ _ h).1) (show 0 + 0 ≤ 0 by first | omega | decide) (show 0 + 0 ≤ 0 by first | omega | decide) (Nat.le_of_ble_eq_true rfl) (fun r660190 w660191 dc660187 ds660188 hp660189 => ?_) (fun _ _ _ _ _ z => z.elim)
  obtain ⟨rfl, rfl, hdc, hds⟩ := hp660189
  change G _ _ _ _ _ _ _ (.int 0 :: _) _ _ _
  refine G_widen (cs' := 0) (sl' := 0) (by omega) (by omega) ?_
  refine G_istore_n (L' := [(2, .int 0), (0, .ref qs660177), (1, .ref q660175)]) dr_cJ0_indexOf_2f485_4 (Nat.le_of_ble_eq_true rfl) rfl ?_
  refine G_iload_n 0 dr_cJ0_indexOf_2f485_5 rfl ?_
  refine G_aload_n 2 dr_cJ0_indexOf_2f485_6 rfl ?_
  refine Gw_callV (As := []) (gV_ok D I) (cp_659065_String_coder l hl0 D I P660173 F660174 q660175 q660176 p660180 p660181 f660182 n660183 hmq660175 hmq660176 heq660175 heq660176 bp660181 bf660182 (by have qa0 : Int32.toInt 0 = 0 := (by decide); omega)) dr_cJ0_indexOf_2f485_7 ⟨wr_3_61, wr_1_21, wr_3_64, by decide, rfl, (Nat.le_of_ble_eq_true rfl), (Nat.le_of_ble_eq_true rfl)⟩ wr_3_62 wr_3_63 hmq660175 heq660175 rfl (show 0 + 0 ≤ 0 by first | omega | decide) (show 0 + 0 ≤ 0 by first | omega | decide) (Nat.le_of_ble_eq_true rfl) (fun r660195 w660196 dc660192 ds660193 hp660194 => ?_) (fun _ _ _ _ _ z => z.elim)
  obtain ⟨rfl, rfl, hdc, hds⟩ := hp660194
  change G _ _ _ _ _ _ _ (.int 0 :: _) _ _ _
  refine G_widen (cs' := 0) (sl' := 0) (by omega) (by omega) ?_
  refine G_icmp_ne 46 dr_cJ0_indexOf_2f485_10 (by decide +kernel) (fun hc => absurd hc (by decide)) (fun _ => ?_)
  refine G_aload_n 1 dr_cJ0_indexOf_2f485_13 rfl ?_
  refine Gw_callVk (As := []) (gV_ok D I) (cp_660141_String_isLatin1 l hl0 D I P660173 F660174 qs660177 qb660178 bs660179 hbs660179 nbs660179 lbs660179) dr_cJ0_indexOf_2f485_14 ⟨wr_3_71, wr_1_21, wr_3_74, by decide, rfl, (Nat.le_of_ble_eq_true rfl), (Nat.le_of_ble_eq_true rfl)⟩ wr_3_72 wr_3_73 (fun _ _ _ h => (hbs660179 _ _ _ h).1) (show 0 + 0 ≤ 0 by first | omega | decide) (show 0 + 0 ≤ 0 by first | omega | decide) (Nat.le_of_ble_eq_true rfl) (fun r660200 w660201 dc660197 ds660198 hp660199 => ?_) (fun _ _ _ _ _ z => z.elim)
  obtain ⟨rfl, rfl, hdc, hds⟩ := hp660199
  change G _ _ _ _ _ _ _ (.int 1 :: _) _ _ _
  refine G_widen (cs' := 0) (sl' := 0) (by omega) (by omega) ?_
  refine G_if_eq 34 dr_cJ0_indexOf_2f485_17 (by decide +kernel) (fun hc => absurd hc (by decide)) (fun _ => ?_)
  refine G_aload_n 1 dr_cJ0_indexOf_2f485_20 rfl ?_
  refine G_kget dr_cJ0_indexOf_2f485_21 wr_8_182 (fun _ _ _ h => (hbs660179 _ _ _ h).2.2.1) ?_
  refine G_aload_n 2 dr_cJ0_indexOf_2f485_24 rfl ?_
  refine Gp_get 0 hmq660175 heq660175 dr_cJ0_indexOf_2f485_25 (gk_J0 D I) (Nat.le_of_ble_eq_true rfl) wr_8_182 rfl ?_
  refine Gw_callS (As := [.ref qb660178, .ref q660176]) (gV_ok D I) (cp_660211_StringLatin1_indexOf l hl0 D I P660173 F660174 q660176 qb660178 bs660179 f660182 n660183 hmq660176 heq660176 (fun _ _ _ h => (hbs660179 _ _ _ h).2.2.2) (by omega) lbs660179 bf660182 (by have qa0 : Int32.toInt 0 = 0 := (by decide); omega) (by have qa0 : Int32.toInt 0 = 0 := (by decide); omega)) dr_cJ0_indexOf_2f485_28 ⟨wr_8_200, wr_1_28, wr_8_202, by decide, rfl, (Nat.le_of_ble_eq_true rfl), (Nat.le_of_ble_eq_true rfl)⟩ wr_8_201 (show 0 + 0 ≤ 0 by first | omega | decide) (show 0 + 0 ≤ 0 by first | omega | decide) (Nat.le_of_ble_eq_true rfl) (fun r667248 w667249 dc667245 ds667246 hp667247 => ?_) (fun _ _ _ _ _ z => z.elim)
  obtain ⟨o667250, rfl, rfl, hdc, hds, bo667250, x667251, x667252, ht667253⟩ := hp667247
  change G _ _ _ _ _ _ _ (.int o667250 :: _) _ _ _
  refine G_widen (cs' := 0) (sl' := 0) (by omega) (by omega) ?_
  refine G_goto 45 dr_cJ0_indexOf_2f485_31 (by decide +kernel) ?_
  exact G_iretA dr_cJ0_indexOf_2f485_45 rfl (Nat.le_of_ble_eq_true rfl) (Nat.le_of_ble_eq_true rfl) ⟨o667250, rfl, rfl, (Nat.le_of_ble_eq_true rfl), (Nat.le_of_ble_eq_true rfl), bo667250, (by have qa0 : Int32.toInt 0 = 0 := (by decide); omega), x667252, (fun R c1 => c1 o667250 bo667250 ht667253)⟩
/- tr_RStringLatin1_canEncode2: result -/
def tr_RStringLatin1_canEncode2 (a0 : Int32) (o1 : Int32) : Prop := ∀ R : (Int32) → Prop,
  (a0.toInt < 0 → R (0 : Int32)) →
  (0 ≤ a0.toInt → 255 < a0.toInt → R (0 : Int32)) →
  (0 ≤ a0.toInt → a0.toInt ≤ 255 → R (1 : Int32)) →
  R o1
abbrev ky_667295_StringLatin1_canEncode : gKey := (cJ1_canEncode_9a6ad, 1, "java/lang/StringLatin1", (some FieldType.boolean), [], "canEncode", fun _ _ => True)
def pp_667295_StringLatin1_canEncode (D : va_G) (I : FieldType → ClassId) (P667292 : List Nat) (F667293 : Nat → va_E) (p667294 : Int32) : Option Value → va_W → Nat → Nat → Prop := fun r w dc ds => (r = some (.int 0) ∧ w = va_pl P667292 F667293 ∧ dc ≤ 0 ∧ ds ≤ 0 ∧ p667294.toInt < 0 ∧ tr_RStringLatin1_canEncode2 p667294 (0 : Int32)) ∨ (r = some (.int 0) ∧ w = va_pl P667292 F667293 ∧ dc ≤ 0 ∧ ds ≤ 0 ∧ 0 ≤ p667294.toInt ∧ 255 < p667294.toInt ∧ tr_RStringLatin1_canEncode2 p667294 (0 : Int32)) ∨ (r = some (.int 1) ∧ w = va_pl P667292 F667293 ∧ dc ≤ 0 ∧ ds ≤ 0 ∧ 0 ≤ p667294.toInt ∧ p667294.toInt ≤ 255 ∧ tr_RStringLatin1_canEncode2 p667294 (1 : Int32))
set_option maxRecDepth 100000 in
set_option maxHeartbeats 4000000 in
theorem cp_667295_StringLatin1_canEncode (l : Launch) (hl0 : l.stackTraces = false) (D : va_G) (I : FieldType → ClassId) (P667292 : List Nat) (F667293 : Nat → va_E) (p667294 : Int32)  : CtA (gV D I) l yJ1_canEncode_9a6ad cJ1_canEncode_9a6ad 1 (some FieldType.boolean) 0 0 0 0 [.int p667294] (va_pl P667292 F667293) (pp_667295_StringLatin1_canEncode D I P667292 F667293 p667294) gNA := by
  refine CtA_ofF hl0 (by decide +kernel) (Nat.le_of_ble_eq_true rfl) ?_
  have bp667294 := gB_any p667294
  refine G_iload_n 0 dr_cJ1_canEncode_9a6ad_0 rfl ?_
  refine G_if_lt 15 dr_cJ1_canEncode_9a6ad_1 (by decide +kernel) (fun hc667296 => ?_) (fun hc667296 => ?_)
  · have r667297 : p667294.toInt < 0 := gj_lt hc667296 (show Int32.toInt 0 = 0 by decide)
    have bp667294' : gB p667294 (-2147483648) (-1) := ⟨by omega, by omega⟩
    refine G_iconst 0 dr_cJ1_canEncode_9a6ad_15 (by decide +kernel) ?_
    exact G_zretA FieldType.boolean dr_cJ1_canEncode_9a6ad_16 rfl rfl (Nat.le_of_ble_eq_true rfl) (Nat.le_of_ble_eq_true rfl) (Or.inl ⟨rfl, rfl, (Nat.le_of_ble_eq_true rfl), (Nat.le_of_ble_eq_true rfl), r667297, (fun R c1 c2 c3 => c1 r667297)⟩)
  · have r667298 : 0 ≤ p667294.toInt := gj_nlt hc667296 (show Int32.toInt 0 = 0 by decide)
    have bp667294' : gB p667294 0 2147483647 := ⟨by omega, by omega⟩
    refine G_iload_n 0 dr_cJ1_canEncode_9a6ad_4 rfl ?_
    refine G_sipush 255 dr_cJ1_canEncode_9a6ad_5 (by decide +kernel) ?_
    refine G_icmp_gt 15 dr_cJ1_canEncode_9a6ad_8 (by decide +kernel) (fun hc667299 => ?_) (fun hc667299 => ?_)
    · have r667300 : 255 < p667294.toInt := gj_ltL hc667299 (show Int32.toInt 255 = 255 by decide)
      have bp667294'' : gB p667294 256 2147483647 := ⟨by omega, by omega⟩
      refine G_iconst 0 dr_cJ1_canEncode_9a6ad_15 (by decide +kernel) ?_
      exact G_zretA FieldType.boolean dr_cJ1_canEncode_9a6ad_16 rfl rfl (Nat.le_of_ble_eq_true rfl) (Nat.le_of_ble_eq_true rfl) (Or.inr (Or.inl ⟨rfl, rfl, (Nat.le_of_ble_eq_true rfl), (Nat.le_of_ble_eq_true rfl), r667298, r667300, (fun R c1 c2 c3 => c2 r667298 r667300)⟩))
    · have r667301 : p667294.toInt ≤ 255 := gj_nltL hc667299 (show Int32.toInt 255 = 255 by decide)
      have bp667294'' : gB p667294 0 255 := ⟨by omega, by omega⟩
      refine G_iconst 1 dr_cJ1_canEncode_9a6ad_11 (by decide +kernel) ?_
      refine G_goto 16 dr_cJ1_canEncode_9a6ad_12 (by decide +kernel) ?_
      exact G_zretA FieldType.boolean dr_cJ1_canEncode_9a6ad_16 rfl rfl (Nat.le_of_ble_eq_true rfl) (Nat.le_of_ble_eq_true rfl) (Or.inr (Or.inr (⟨rfl, rfl, (Nat.le_of_ble_eq_true rfl), (Nat.le_of_ble_eq_true rfl), r667298, r667301, (fun R c1 c2 c3 => c3 r667298 r667301)⟩)))
/- tl_RStringLatin1_indexOfChar_7: l5; out: l5 -/
def tl_RStringLatin1_indexOfChar_7 (a3 : Int32) (bs : List Int32) (c1 : Int32) (s1 : Int32) (k : Nat) (e1 : Int32) : Prop := ∀ R : (Int32) → Nat → (Int32) → Prop,
  (∀ (l5_1 : Int32), gB l5_1 0 65535 → a3.toInt ≤ l5_1.toInt → R l5_1 31 (0 : Int32)) →
  (∀ (l5_1 : Int32) (x1 : Int32) (x2 : Int32) (k : Nat) (e1 : Int32), gB l5_1 0 65535 → l5_1.toInt < a3.toInt → x1 = bs.getD l5_1.toNatClampNeg 0 → x1.toInt ≠ c1.toInt → x2.toInt = l5_1.toInt + 1 → R x2 k e1 → R l5_1 k e1) →
  (∀ (l5_1 : Int32) (x1 : Int32), gB l5_1 0 65535 → l5_1.toInt < a3.toInt → x1 = bs.getD l5_1.toNatClampNeg 0 → x1.toInt = c1.toInt → R l5_1 22 l5_1) →
  R s1 k e1
/- tr_RStringLatin1_indexOfChar: result -/
def tr_RStringLatin1_indexOfChar (bs : List Int32) (a1 : Int32) (a2 : Int32) (a3 : Int32) (o1 : Int32) : Prop := ∀ R : (Int32) → Prop,
  (∀ (x1 : Int32), x1 = a1.toInt8.toInt32 → tl_RStringLatin1_indexOfChar_7 a3 bs x1 a2 31 (0 : Int32) → R (-1 : Int32)) →
  (∀ (x1 : Int32) (x2 : Int32), x1 = a1.toInt8.toInt32 → tl_RStringLatin1_indexOfChar_7 a3 bs x1 a2 22 x2 → R x2) →
  R o1
abbrev ky_667329_StringLatin1_indexOfChar : gKey := (cJ1_indexOfChar_4cfef, 6, "java/lang/StringLatin1", (some FieldType.int), [], "indexOfChar", fun _ _ => True)
def pp_667329_StringLatin1_indexOfChar (D : va_G) (I : FieldType → ClassId) (P667321 : List Nat) (F667322 : Nat → va_E) (qs667323 : Nat) (bs667324 : List Int32) (p667325 : Int32) (p667326 : Int32) (p667327 : Int32) : Option Value → va_W → Nat → Nat → Prop := fun r w dc ds => ∃ (o667359 : Int32), r = some (.int o667359) ∧ w = va_pl P667321 F667322 ∧ dc ≤ 0 ∧ ds ≤ 0 ∧ gB o667359 (-1) 65534 ∧ tr_RStringLatin1_indexOfChar bs667324 p667325 p667326 p667327 o667359
set_option maxRecDepth 100000 in
set_option maxHeartbeats 4000000 in
theorem cp_667329_StringLatin1_indexOfChar (l : Launch) (hl0 : l.stackTraces = false) (D : va_G) (I : FieldType → ClassId) (P667321 : List Nat) (F667322 : Nat → va_E) (qs667323 : Nat) (bs667324 : List Int32) (p667325 : Int32) (p667326 : Int32) (p667327 : Int32) (hbs667324 : ∀ A s H, (gV D I).2.2.2.1 A s H → va_T .byte qs667323 bs667324.length (fun j => .int (bs667324.getD j 0)) A s H) (nbs667324 : (bs667324.length : Int) ≤ 65535) (lbs667324 : gLB bs667324) (bp667325 : gB p667325 0 65535) (bp667326 : gB p667326 0 65535) (bp667327 : gB p667327 0 65535) (x667328 : p667327.toInt ≤ (bs667324.length : Int)) : CtA (gV D I) l yJ1_indexOfChar_4cfef cJ1_indexOfChar_4cfef 6 (some FieldType.int) 0 0 0 0 [.ref qs667323, .int p667325, .int p667326, .int p667327] (va_pl P667321 F667322) (pp_667329_StringLatin1_indexOfChar D I P667321 F667322 qs667323 bs667324 p667325 p667326 p667327) gNA := by
  refine CtA_ofF hl0 (by decide +kernel) (Nat.le_of_ble_eq_true rfl) ?_
  refine G_iload_n 1 dr_cJ1_indexOfChar_4cfef_0 rfl ?_
  refine G_i2b dr_cJ1_indexOfChar_4cfef_1 (G_nam fun z667330 hz667330 => ?_)
  have bz667330 : gB z667330 (-128) 127 := gB_i2b hz667330
  refine G_istore (L' := [(4, .int z667330), (0, .ref qs667323), (1, .int p667325), (2, .int p667326), (3, .int p667327)]) dr_cJ1_indexOfChar_4cfef_2 (Nat.le_of_ble_eq_true rfl) rfl ?_
  refine G_iload_n 3 dr_cJ1_indexOfChar_4cfef_4 rfl ?_
  refine G_istore (L' := [(5, .int p667326), (4, .int z667330), (0, .ref qs667323), (1, .int p667325), (2, .int p667326), (3, .int p667327)]) dr_cJ1_indexOfChar_4cfef_5 (Nat.le_of_ble_eq_true rfl) rfl ?_
  have hlp7_667348 : ∀ (n7_667348 : Nat) (g667348 : Int32), gB g667348 0 65535 → (∀ (k : Nat) (e1 : Int32), tl_RStringLatin1_indexOfChar_7 p667327 bs667324 z667330 g667348 k e1 → tl_RStringLatin1_indexOfChar_7 p667327 bs667324 z667330 p667326 k e1) → ((65536 : Int) - g667348.toInt).toNat < n7_667348 → G (gV D I) l (gRm 0 0 0 0) (gMA (gV D I) (pp_667329_StringLatin1_indexOfChar D I P667321 F667322 qs667323 bs667324 p667325 p667326 p667327) gNA 0 0) ky_667329_StringLatin1_indexOfChar 7 [(5, .int g667348), (4, .int z667330), (0, .ref qs667323), (1, .int p667325), (2, .int p667326), (3, .int p667327)] [] (va_pl P667321 F667322) 0 0 := by
    intro n7_667348
    induction n7_667348 with
    | zero => intro g667348 bg667348 kt7_667348 hm7_667348; exact absurd hm7_667348 (Nat.not_lt_zero _)
    | succ n7_667348 ih7_667348 =>
      intro g667348 bg667348 kt7_667348 hm7_667348
      refine G_iload 0 dr_cJ1_indexOfChar_4cfef_7 rfl ?_
      refine G_iload_n 5 dr_cJ1_indexOfChar_4cfef_9 rfl ?_
      refine G_icmp_ge 31 dr_cJ1_indexOfChar_4cfef_10 (by decide +kernel) (fun hc667349 => ?_) (fun hc667349 => ?_)
      · have r667350 : p667327.toInt ≤ g667348.toInt := gC_le hc667349
        have hx667351 : tl_RStringLatin1_indexOfChar_7 p667327 bs667324 z667330 p667326 31 (0 : Int32) := kt7_667348 31 (0 : Int32) (fun R c1 c2 c3 => c1 g667348 bg667348 r667350)
        refine G_iconst (-1) dr_cJ1_indexOfChar_4cfef_31 (by decide +kernel) ?_
        exact G_iretA dr_cJ1_indexOfChar_4cfef_32 rfl (Nat.le_of_ble_eq_true rfl) (Nat.le_of_ble_eq_true rfl) ⟨(-1), rfl, rfl, (Nat.le_of_ble_eq_true rfl), (Nat.le_of_ble_eq_true rfl), (gB_w (gBl (show Int32.toInt (-1) = (-1) by decide)) (by decide) (by decide)), (fun R c1 c2 => c1 z667330 hz667330 hx667351)⟩
      · have r667352 : g667348.toInt < p667327.toInt := gC_nle hc667349
        have bg667348' : gB g667348 0 65534 := ⟨by omega, by omega⟩
        have bp667327' : gB p667327 1 65535 := ⟨by omega, by omega⟩
        refine G_aload_n 2 dr_cJ1_indexOfChar_4cfef_13 rfl ?_
        refine G_iload 0 dr_cJ1_indexOfChar_4cfef_14 rfl ?_
        refine G_kbald (f := fun j => bs667324.getD j 0) dr_cJ1_indexOfChar_4cfef_16 hbs667324 (gB_inr (by omega) (by omega)) (G_nam fun z667353 hz667353 => ?_)
        have bz667353 : gB z667353 (-2147483648) 2147483647 := gB_any z667353
        refine G_iload 1 dr_cJ1_indexOfChar_4cfef_17 rfl ?_
        refine G_icmp_ne 25 dr_cJ1_indexOfChar_4cfef_19 (by decide +kernel) (fun hc667354 => ?_) (fun hc667354 => ?_)
        · have r667355 : z667353.toInt ≠ z667330.toInt := gC_ne hc667354
          obtain ⟨z667356, hz667356⟩ : ∃ z : Int32, z = g667348 + Int32.ofInt 1 := ⟨_, rfl⟩
          have ez667356 : z667356.toInt = g667348.toInt + 1 := gI_inc hz667356 (by decide) bg667348' (by decide) (by decide)
          have bz667356 : gB z667356 1 65535 := ⟨by omega, by omega⟩
          refine G_iinc (L' := [(5, .int z667356), (4, .int z667330), (0, .ref qs667323), (1, .int p667325), (2, .int p667326), (3, .int p667327)]) z667356 0 dr_cJ1_indexOfChar_4cfef_25 rfl hz667356.symm (Nat.le_of_ble_eq_true rfl) rfl ?_
          refine G_goto 7 dr_cJ1_indexOfChar_4cfef_28 (by decide +kernel) ?_
          exact ih7_667348 z667356 (gB_w bz667356 (by decide) (by decide)) (fun k e1 ht => kt7_667348 k e1 (fun R c1 c2 c3 => c2 g667348 z667353 z667356 k e1 bg667348 r667352 hz667353 r667355 ez667356 (ht R c1 c2 c3))) (by omega)
        · have r667357 : z667353.toInt = z667330.toInt := gC_eq hc667354
          have bz667353' : gB z667353 (-128) 127 := ⟨by omega, by omega⟩
          have hx667358 : tl_RStringLatin1_indexOfChar_7 p667327 bs667324 z667330 p667326 22 g667348 := kt7_667348 22 g667348 (fun R c1 c2 c3 => c3 g667348 z667353 bg667348 r667352 hz667353 r667357)
          refine G_iload 0 dr_cJ1_indexOfChar_4cfef_22 rfl ?_
          exact G_iretA dr_cJ1_indexOfChar_4cfef_24 rfl (Nat.le_of_ble_eq_true rfl) (Nat.le_of_ble_eq_true rfl) ⟨g667348, rfl, rfl, (Nat.le_of_ble_eq_true rfl), (Nat.le_of_ble_eq_true rfl), (gB_w bg667348' (by decide) (by decide)), (fun R c1 c2 => c2 z667330 g667348 hz667330 hx667358)⟩
  exact hlp7_667348 (((65536 : Int) - p667326.toInt).toNat + 1) p667326 bp667326 (fun k e1 ht => ht) (Nat.lt_succ_self _)
/- tr_RStringLatin1_indexOf3: result -/
def tr_RStringLatin1_indexOf3 (bs : List Int32) (a1 : Int32) (a2 : Int32) (a3 : Int32) (o1 : Int32) : Prop := ∀ R : (Int32) → Prop,
  (tr_RStringLatin1_canEncode2 a1 (0 : Int32) → R (-1 : Int32)) →
  (∀ (x1 : Int32) (x2 : Int32) (x3 : Int32) (x4 : Int32), tr_RStringLatin1_canEncode2 a1 (1 : Int32) → (a2.toInt ≤ x1.toInt ∧ 0 ≤ x1.toInt ∧ (x1.toInt = a2.toInt ∨ x1.toInt = 0)) → x2.toInt = (bs.length : Int) → (a3.toInt ≥ x3.toInt ∧ x2.toInt ≥ x3.toInt ∧ (x3.toInt = a3.toInt ∨ x3.toInt = x2.toInt)) → x1.toInt < x3.toInt → gB x4 (-1) 65534 → tr_RStringLatin1_indexOfChar bs a1 x1 x3 x4 → R x4) →
  (∀ (x1 : Int32) (x2 : Int32) (x3 : Int32), tr_RStringLatin1_canEncode2 a1 (1 : Int32) → (a2.toInt ≤ x1.toInt ∧ 0 ≤ x1.toInt ∧ (x1.toInt = a2.toInt ∨ x1.toInt = 0)) → x2.toInt = (bs.length : Int) → (a3.toInt ≥ x3.toInt ∧ x2.toInt ≥ x3.toInt ∧ (x3.toInt = a3.toInt ∨ x3.toInt = x2.toInt)) → x3.toInt ≤ x1.toInt → R (-1 : Int32)) →
  R o1
abbrev ky_667291_StringLatin1_indexOf : gKey := (cJ1_indexOf_4cfef, 4, "java/lang/StringLatin1", (some FieldType.int), [], "indexOf", fun _ _ => True)
def pp_667291_StringLatin1_indexOf (D : va_G) (I : FieldType → ClassId) (P667283 : List Nat) (F667284 : Nat → va_E) (qs667285 : Nat) (bs667286 : List Int32) (p667287 : Int32) (p667288 : Int32) (p667289 : Int32) : Option Value → va_W → Nat → Nat → Prop := fun r w dc ds => ∃ (o667368 : Int32), r = some (.int o667368) ∧ w = va_pl P667283 F667284 ∧ dc ≤ 0 ∧ ds ≤ 0 ∧ gB o667368 (-1) 65534 ∧ tr_RStringLatin1_indexOf3 bs667286 p667287 p667288 p667289 o667368
set_option maxRecDepth 100000 in
set_option maxHeartbeats 4000000 in
theorem cp_667291_StringLatin1_indexOf (l : Launch) (hl0 : l.stackTraces = false) (D : va_G) (I : FieldType → ClassId) (P667283 : List Nat) (F667284 : Nat → va_E) (qs667285 : Nat) (bs667286 : List Int32) (p667287 : Int32) (p667288 : Int32) (p667289 : Int32) (hbs667286 : ∀ A s H, (gV D I).2.2.2.1 A s H → va_T .byte qs667285 bs667286.length (fun j => .int (bs667286.getD j 0)) A s H) (nbs667286 : (bs667286.length : Int) ≤ 65535) (lbs667286 : gLB bs667286) (bp667287 : gB p667287 0 65535) (bp667288 : gB p667288 0 1) (bp667289 : gB p667289 0 65535) (x667290 : p667289.toInt = (bs667286.length : Int)) : CtA (gV D I) l yJ1_indexOf_4cfef cJ1_indexOf_4cfef 4 (some FieldType.int) 1 25 0 0 [.ref qs667285, .int p667287, .int p667288, .int p667289] (va_pl P667283 F667284) (pp_667291_StringLatin1_indexOf D I P667283 F667284 qs667285 bs667286 p667287 p667288 p667289) gNA := by
  refine CtA_ofF hl0 (by decide +kernel) (Nat.le_of_ble_eq_true rfl) ?_
  refine G_iload_n 1 dr_cJ1_indexOf_4cfef_0 rfl ?_
  refine Gw_callS (As := [.int p667287]) (gV_ok D I) (cp_667295_StringLatin1_canEncode l hl0 D I P667283 F667284 p667287 ) dr_cJ1_indexOf_4cfef_1 ⟨wr_9_2, wr_1_28, wr_9_4, by decide, rfl, (Nat.le_of_ble_eq_true rfl), (Nat.le_of_ble_eq_true rfl)⟩ wr_9_3 (show 0 + 0 ≤ 0 by first | omega | decide) (show 0 + 0 ≤ 0 by first | omega | decide) (Nat.le_of_ble_eq_true rfl) (fun r667305 w667306 dc667302 ds667303 hp667304 => ?_) (fun _ _ _ _ _ z => z.elim)
  rcases hp667304 with ⟨rfl, rfl, hdc, hds, r667307, r667308⟩ | ⟨rfl, rfl, hdc, hds, r667309, r667310, r667311⟩ | ⟨rfl, rfl, hdc, hds, r667312, r667313, r667314⟩
  · exact absurd (show False by omega) not_false
  · have bp667287' : gB p667287 256 65535 := ⟨by omega, by omega⟩
    change G _ _ _ _ _ _ _ (.int 0 :: _) _ _ _
    refine G_widen (cs' := 0) (sl' := 0) (by omega) (by omega) ?_
    refine G_if_ne 9 dr_cJ1_indexOf_4cfef_4 (by decide +kernel) (fun hc => absurd hc (by decide)) (fun _ => ?_)
    refine G_iconst (-1) dr_cJ1_indexOf_4cfef_7 (by decide +kernel) ?_
    exact G_iretA dr_cJ1_indexOf_4cfef_8 rfl (Nat.le_of_ble_eq_true rfl) (Nat.le_of_ble_eq_true rfl) ⟨(-1), rfl, rfl, (Nat.le_of_ble_eq_true rfl), (Nat.le_of_ble_eq_true rfl), (gB_w (gBl (show Int32.toInt (-1) = (-1) by decide)) (by decide) (by decide)), (fun R c1 c2 c3 => c1 r667311)⟩
  · have bp667287' : gB p667287 0 255 := ⟨by omega, by omega⟩
    change G _ _ _ _ _ _ _ (.int 1 :: _) _ _ _
    refine G_widen (cs' := 0) (sl' := 0) (by omega) (by omega) ?_
    refine G_if_ne 9 dr_cJ1_indexOf_4cfef_4 (by decide +kernel) (fun _ => ?_) (fun hc => absurd hc (by decide))
    refine G_iload_n 2 dr_cJ1_indexOf_4cfef_9 rfl ?_
    refine G_iconst 0 dr_cJ1_indexOf_4cfef_10 (by decide +kernel) ?_
    refine G_mmax dr_cJ1_indexOf_4cfef_11 wr_9_5 wr_1_140 wr_1_6 wr_1_141 (Nat.le_of_ble_eq_true rfl) (Nat.le_of_ble_eq_true rfl) (show 0 ≤ 0 by first | omega | decide) (show 0 ≤ 0 by first | omega | decide) (G_nam fun z667316 hz667316 => ?_)
    have ez667316 : p667288.toInt ≤ z667316.toInt ∧ 0 ≤ z667316.toInt ∧ (z667316.toInt = p667288.toInt ∨ z667316.toInt = 0) := by have := gI_max hz667316; rw [show Int32.toInt 0 = 0 from by decide] at this; omega
    have bz667316 : gB z667316 0 1 := ⟨by omega, by omega⟩
    refine G_istore_n (L' := [(2, .int z667316), (0, .ref qs667285), (1, .int p667287), (3, .int p667289)]) dr_cJ1_indexOf_4cfef_14 (Nat.le_of_ble_eq_true rfl) rfl ?_
    refine G_iload_n 3 dr_cJ1_indexOf_4cfef_15 rfl ?_
    refine G_aload_n 1 dr_cJ1_indexOf_4cfef_16 rfl ?_
    refine G_klen dr_cJ1_indexOf_4cfef_17 hbs667286 (G_nam fun z667317 hz667317 => ?_)
    have ez667317 : z667317.toInt = (bs667286.length : Int) := gI_ofN hz667317 nbs667286
    have bz667317 : gB z667317 0 65535 := ⟨by omega, by omega⟩
    refine G_mmin dr_cJ1_indexOf_4cfef_18 wr_9_6 wr_3_227 wr_1_6 wr_3_228 (Nat.le_of_ble_eq_true rfl) (Nat.le_of_ble_eq_true rfl) (show 0 ≤ 0 by first | omega | decide) (show 0 ≤ 0 by first | omega | decide) (G_nam fun z667318 hz667318 => ?_)
    have ez667318 : p667289.toInt ≥ z667318.toInt ∧ z667317.toInt ≥ z667318.toInt ∧ (z667318.toInt = p667289.toInt ∨ z667318.toInt = z667317.toInt) := by have := gI_min hz667318; omega
    have bz667318 : gB z667318 0 65535 := ⟨by omega, by omega⟩
    refine G_istore_n (L' := [(3, .int z667318), (2, .int z667316), (0, .ref qs667285), (1, .int p667287)]) dr_cJ1_indexOf_4cfef_21 (Nat.le_of_ble_eq_true rfl) rfl ?_
    refine G_iload_n 1 dr_cJ1_indexOf_4cfef_22 rfl ?_
    refine G_iload_n 0 dr_cJ1_indexOf_4cfef_23 rfl ?_
    refine G_icmp_lt 29 dr_cJ1_indexOf_4cfef_24 (by decide +kernel) (fun hc667319 => ?_) (fun hc667319 => ?_)
    · have r667320 : z667316.toInt < z667318.toInt := gC_lt hc667319
      have bz667318' : gB z667318 1 65535 := ⟨by omega, by omega⟩
      refine G_aload_n 2 dr_cJ1_indexOf_4cfef_29 rfl ?_
      refine G_iload_n 3 dr_cJ1_indexOf_4cfef_30 rfl ?_
      refine G_iload_n 1 dr_cJ1_indexOf_4cfef_31 rfl ?_
      refine G_iload_n 0 dr_cJ1_indexOf_4cfef_32 rfl ?_
      refine Gw_callS (As := [.ref qs667285, .int p667287, .int z667316, .int z667318]) (gV_ok D I) (cp_667329_StringLatin1_indexOfChar l hl0 D I P667283 F667284 qs667285 bs667286 p667287 z667316 z667318 hbs667286 nbs667286 lbs667286 (gB_w bp667287' (by decide) (by decide)) (gB_w bz667316 (by decide) (by decide)) (gB_w bz667318' (by decide) (by decide)) (by omega)) dr_cJ1_indexOf_4cfef_33 ⟨wr_9_7, wr_1_28, wr_9_9, by decide, rfl, (Nat.le_of_ble_eq_true rfl), (Nat.le_of_ble_eq_true rfl)⟩ wr_9_8 (show 0 + 0 ≤ 0 by first | omega | decide) (show 0 + 0 ≤ 0 by first | omega | decide) (Nat.le_of_ble_eq_true rfl) (fun r667363 w667364 dc667360 ds667361 hp667362 => ?_) (fun _ _ _ _ _ z => z.elim)
      obtain ⟨o667365, rfl, rfl, hdc, hds, bo667365, ht667366⟩ := hp667362
      change G _ _ _ _ _ _ _ (.int o667365 :: _) _ _ _
      refine G_widen (cs' := 0) (sl' := 0) (by omega) (by omega) ?_
      exact G_iretA dr_cJ1_indexOf_4cfef_36 rfl (Nat.le_of_ble_eq_true rfl) (Nat.le_of_ble_eq_true rfl) ⟨o667365, rfl, rfl, (Nat.le_of_ble_eq_true rfl), (Nat.le_of_ble_eq_true rfl), bo667365, (fun R c1 c2 c3 => c2 z667316 z667317 z667318 o667365 r667314 ez667316 ez667317 ez667318 r667320 bo667365 ht667366)⟩
    · have r667367 : z667318.toInt ≤ z667316.toInt := gC_nlt hc667319
      have bz667318' : gB z667318 0 1 := ⟨by omega, by omega⟩
      refine G_iconst (-1) dr_cJ1_indexOf_4cfef_27 (by decide +kernel) ?_
      exact G_iretA dr_cJ1_indexOf_4cfef_28 rfl (Nat.le_of_ble_eq_true rfl) (Nat.le_of_ble_eq_true rfl) ⟨(-1), rfl, rfl, (Nat.le_of_ble_eq_true rfl), (Nat.le_of_ble_eq_true rfl), (gB_w (gBl (show Int32.toInt (-1) = (-1) by decide)) (by decide) (by decide)), (fun R c1 c2 c3 => c3 z667316 z667317 z667318 r667314 ez667316 ez667317 ez667318 r667367)⟩
/- tr_RString_indexOf3: result -/
def tr_RString_indexOf3 (bs : List Int32) (a1 : Int32) (a2 : Int32) (o1 : Int32) : Prop := ∀ R : (Int32) → Prop,
  (∀ (x1 : Int32) (x2 : Int32), gB x1 0 65535 → tr_RString_length2 bs x1 → gB x2 (-1) 65534 → tr_RStringLatin1_indexOf3 bs a1 a2 x1 x2 → R x2) →
  R o1
abbrev ky_667269_String_indexOf : gKey := (cJ0_indexOf_7cf53, 3, "java/lang/String", (some FieldType.int), [], "indexOf", fun _ _ => True)
def pp_667269_String_indexOf (D : va_G) (I : FieldType → ClassId) (P667262 : List Nat) (F667263 : Nat → va_E) (qs667264 : Nat) (qb667265 : Nat) (bs667266 : List Int32) (p667267 : Int32) (p667268 : Int32) : Option Value → va_W → Nat → Nat → Prop := fun r w dc ds => ∃ (o667376 : Int32), r = some (.int o667376) ∧ w = va_pl P667262 F667263 ∧ dc ≤ 0 ∧ ds ≤ 0 ∧ gB o667376 (-1) 65534 ∧ tr_RString_indexOf3 bs667266 p667267 p667268 o667376
set_option maxRecDepth 100000 in
set_option maxHeartbeats 4000000 in
theorem cp_667269_String_indexOf (l : Launch) (hl0 : l.stackTraces = false) (D : va_G) (I : FieldType → ClassId) (P667262 : List Nat) (F667263 : Nat → va_E) (qs667264 : Nat) (qb667265 : Nat) (bs667266 : List Int32) (p667267 : Int32) (p667268 : Int32) (hbs667266 : ∀ A s H, (gV D I).2.2.2.1 A s H → gSC qs667264 qb667265 bs667266 A s H) (nbs667266 : (bs667266.length : Int) ≤ 65535) (lbs667266 : gLB bs667266) (bp667267 : gB p667267 0 65535) (bp667268 : gB p667268 0 1) : CtA (gV D I) l yJ0_indexOf_7cf53 cJ0_indexOf_7cf53 3 (some FieldType.int) 2 48 0 0 [.ref qs667264, .int p667267, .int p667268] (va_pl P667262 F667263) (pp_667269_String_indexOf D I P667262 F667263 qs667264 qb667265 bs667266 p667267 p667268) gNA := by
  refine CtA_ofF hl0 (by decide +kernel) (Nat.le_of_ble_eq_true rfl) ?_
  refine G_aload_n 0 dr_cJ0_indexOf_7cf53_0 rfl ?_
  refine Gw_callVk (As := []) (gV_ok D I) (cp_660141_String_isLatin1 l hl0 D I P667262 F667263 qs667264 qb667265 bs667266 hbs667266 nbs667266 lbs667266) dr_cJ0_indexOf_7cf53_1 ⟨wr_3_71, wr_1_21, wr_3_74, by decide, rfl, (Nat.le_of_ble_eq_true rfl), (Nat.le_of_ble_eq_true rfl)⟩ wr_3_72 wr_3_73 (fun _ _ _ h => (hbs667266 _ _ _ h).1) (show 0 + 0 ≤ 0 by first | omega | decide) (show 0 + 0 ≤ 0 by first | omega | decide) (Nat.le_of_ble_eq_true rfl) (fun r667273 w667274 dc667270 ds667271 hp667272 => ?_) (fun _ _ _ _ _ z => z.elim)
  obtain ⟨rfl, rfl, hdc, hds⟩ := hp667272
  change G _ _ _ _ _ _ _ (.int 1 :: _) _ _ _
  refine G_widen (cs' := 0) (sl' := 0) (by omega) (by omega) ?_
  refine G_if_eq 23 dr_cJ0_indexOf_7cf53_4 (by decide +kernel) (fun hc => absurd hc (by decide)) (fun _ => ?_)
  refine G_aload_n 0 dr_cJ0_indexOf_7cf53_7 rfl ?_
  refine G_kget dr_cJ0_indexOf_7cf53_8 wr_8_182 (fun _ _ _ h => (hbs667266 _ _ _ h).2.2.1) ?_
  refine G_iload_n 1 dr_cJ0_indexOf_7cf53_11 rfl ?_
  refine G_iload_n 2 dr_cJ0_indexOf_7cf53_12 rfl ?_
  refine G_aload_n 0 dr_cJ0_indexOf_7cf53_13 rfl ?_
  refine Gw_callVk (As := []) (gV_ok D I) (cp_659274_String_length l hl0 D I P667262 F667263 qs667264 qb667265 bs667266 hbs667266 nbs667266 lbs667266) dr_cJ0_indexOf_7cf53_14 ⟨wr_8_238, wr_1_21, wr_3_60, by decide, rfl, (Nat.le_of_ble_eq_true rfl), (Nat.le_of_ble_eq_true rfl)⟩ wr_3_58 wr_3_59 (fun _ _ _ h => (hbs667266 _ _ _ h).1) (show 0 + 0 ≤ 0 by first | omega | decide) (show 0 + 0 ≤ 0 by first | omega | decide) (Nat.le_of_ble_eq_true rfl) (fun r667278 w667279 dc667275 ds667276 hp667277 => ?_) (fun _ _ _ _ _ z => z.elim)
  obtain ⟨o667280, rfl, rfl, hdc, hds, bo667280, x667281, ht667282⟩ := hp667277
  change G _ _ _ _ _ _ _ (.int o667280 :: _) _ _ _
  refine G_widen (cs' := 0) (sl' := 0) (by omega) (by omega) ?_
  refine Gw_callS (As := [.ref qb667265, .int p667267, .int p667268, .int o667280]) (gV_ok D I) (cp_667291_StringLatin1_indexOf l hl0 D I P667262 F667263 qb667265 bs667266 p667267 p667268 o667280 (fun _ _ _ h => (hbs667266 _ _ _ h).2.2.2) (by omega) lbs667266 bp667267 bp667268 bo667280 (by omega)) dr_cJ0_indexOf_7cf53_17 ⟨wr_8_239, wr_1_28, wr_9_1, by decide, rfl, (Nat.le_of_ble_eq_true rfl), (Nat.le_of_ble_eq_true rfl)⟩ wr_9_0 (show 0 + 0 ≤ 0 by first | omega | decide) (show 0 + 0 ≤ 0 by first | omega | decide) (Nat.le_of_ble_eq_true rfl) (fun r667372 w667373 dc667369 ds667370 hp667371 => ?_) (fun _ _ _ _ _ z => z.elim)
  obtain ⟨o667374, rfl, rfl, hdc, hds, bo667374, ht667375⟩ := hp667371
  change G _ _ _ _ _ _ _ (.int o667374 :: _) _ _ _
  refine G_widen (cs' := 0) (sl' := 0) (by omega) (by omega) ?_
  refine G_goto 36 dr_cJ0_indexOf_7cf53_20 (by decide +kernel) ?_
  exact G_iretA dr_cJ0_indexOf_7cf53_36 rfl (Nat.le_of_ble_eq_true rfl) (Nat.le_of_ble_eq_true rfl) ⟨o667374, rfl, rfl, (Nat.le_of_ble_eq_true rfl), (Nat.le_of_ble_eq_true rfl), bo667374, (fun R c1 => c1 o667280 o667374 bo667280 ht667282 bo667374 ht667375)⟩
/- tr_RString_indexOf2: result -/
def tr_RString_indexOf2 (bs : List Int32) (a1 : Int32) (o1 : Int32) : Prop := ∀ R : (Int32) → Prop,
  (∀ (x1 : Int32), gB x1 (-1) 65534 → tr_RString_indexOf3 bs a1 (0 : Int32) x1 → R x1) →
  R o1
abbrev ky_667261_String_indexOf : gKey := (cJ0_indexOf_0f7a4, 2, "java/lang/String", (some FieldType.int), [], "indexOf", fun _ _ => True)
def pp_667261_String_indexOf (D : va_G) (I : FieldType → ClassId) (P667255 : List Nat) (F667256 : Nat → va_E) (qs667257 : Nat) (qb667258 : Nat) (bs667259 : List Int32) (p667260 : Int32) : Option Value → va_W → Nat → Nat → Prop := fun r w dc ds => ∃ (o667384 : Int32), r = some (.int o667384) ∧ w = va_pl P667255 F667256 ∧ dc ≤ 0 ∧ ds ≤ 0 ∧ gB o667384 (-1) 65534 ∧ tr_RString_indexOf2 bs667259 p667260 o667384
set_option maxRecDepth 100000 in
set_option maxHeartbeats 4000000 in
theorem cp_667261_String_indexOf (l : Launch) (hl0 : l.stackTraces = false) (D : va_G) (I : FieldType → ClassId) (P667255 : List Nat) (F667256 : Nat → va_E) (qs667257 : Nat) (qb667258 : Nat) (bs667259 : List Int32) (p667260 : Int32) (hbs667259 : ∀ A s H, (gV D I).2.2.2.1 A s H → gSC qs667257 qb667258 bs667259 A s H) (nbs667259 : (bs667259.length : Int) ≤ 65535) (lbs667259 : gLB bs667259) (bp667260 : gB p667260 0 65535) : CtA (gV D I) l yJ0_indexOf_0f7a4 cJ0_indexOf_0f7a4 2 (some FieldType.int) 3 70 0 0 [.ref qs667257, .int p667260] (va_pl P667255 F667256) (pp_667261_String_indexOf D I P667255 F667256 qs667257 qb667258 bs667259 p667260) gNA := by
  refine CtA_ofF hl0 (by decide +kernel) (Nat.le_of_ble_eq_true rfl) ?_
  refine G_aload_n 0 dr_cJ0_indexOf_0f7a4_0 rfl ?_
  refine G_iload_n 1 dr_cJ0_indexOf_0f7a4_1 rfl ?_
  refine G_iconst 0 dr_cJ0_indexOf_0f7a4_2 (by decide +kernel) ?_
  refine Gw_callVk (As := [.int p667260, .int 0]) (gV_ok D I) (cp_667269_String_indexOf l hl0 D I P667255 F667256 qs667257 qb667258 bs667259 p667260 0 hbs667259 nbs667259 lbs667259 bp667260 (gB_w (gBl (show Int32.toInt 0 = 0 by decide)) (by decide) (by decide))) dr_cJ0_indexOf_0f7a4_3 ⟨wr_8_234, wr_1_21, wr_8_237, by decide, rfl, (Nat.le_of_ble_eq_true rfl), (Nat.le_of_ble_eq_true rfl)⟩ wr_8_235 wr_8_236 (fun _ _ _ h => (hbs667259 _ _ _ h).1) (show 0 + 0 ≤ 0 by first | omega | decide) (show 0 + 0 ≤ 0 by first | omega | decide) (Nat.le_of_ble_eq_true rfl) (fun r667380 w667381 dc667377 ds667378 hp667379 => ?_) (fun _ _ _ _ _ z => z.elim)
  obtain ⟨o667382, rfl, rfl, hdc, hds, bo667382, ht667383⟩ := hp667379
  change G _ _ _ _ _ _ _ (.int o667382 :: _) _ _ _
  refine G_widen (cs' := 0) (sl' := 0) (by omega) (by omega) ?_
  exact G_iretA dr_cJ0_indexOf_0f7a4_6 rfl (Nat.le_of_ble_eq_true rfl) (Nat.le_of_ble_eq_true rfl) ⟨o667382, rfl, rfl, (Nat.le_of_ble_eq_true rfl), (Nat.le_of_ble_eq_true rfl), bo667382, (fun R c1 => c1 o667382 bo667382 ht667383)⟩
/- tl_RInteger_stringSize_16: l3, l2; out: l3 -/
def tl_RInteger_stringSize_16 (a0 : Int32) (s1 : Int32) (s2 : Int32) (k : Nat) (e1 : Int32) : Prop := ∀ R : (Int32) → (Int32) → Nat → (Int32) → Prop,
  (∀ (l3_1 : Int32) (l2_1 : Int32), gB l3_1 1 10 → 10 ≤ l3_1.toInt → R l3_1 l2_1 42 (0 : Int32)) →
  (∀ (l3_1 : Int32) (l2_1 : Int32) (x1 : Int32) (x2 : Int32) (k : Nat) (e1 : Int32), gB l3_1 1 10 → l3_1.toInt < 10 → a0.toInt ≤ l2_1.toInt → x1 = (10 : Int32) * l2_1 → x2.toInt = l3_1.toInt + 1 → R x2 x1 k e1 → R l3_1 l2_1 k e1) →
  (∀ (l3_1 : Int32) (l2_1 : Int32), gB l3_1 1 10 → l3_1.toInt < 10 → l2_1.toInt < a0.toInt → R l3_1 l2_1 27 l3_1) →
  R s1 s2 k e1
/- tl_RInteger_stringSize_16_2: l3, l2; out: l3 -/
def tl_RInteger_stringSize_16_2 (c1 : Int32) (s1 : Int32) (s2 : Int32) (k : Nat) (e1 : Int32) : Prop := ∀ R : (Int32) → (Int32) → Nat → (Int32) → Prop,
  (∀ (l3_1 : Int32) (l2_1 : Int32), gB l3_1 1 10 → 10 ≤ l3_1.toInt → R l3_1 l2_1 42 (0 : Int32)) →
  (∀ (l3_1 : Int32) (l2_1 : Int32) (x1 : Int32) (x2 : Int32) (k : Nat) (e1 : Int32), gB l3_1 1 10 → l3_1.toInt < 10 → c1.toInt ≤ l2_1.toInt → x1 = (10 : Int32) * l2_1 → x2.toInt = l3_1.toInt + 1 → R x2 x1 k e1 → R l3_1 l2_1 k e1) →
  (∀ (l3_1 : Int32) (l2_1 : Int32), gB l3_1 1 10 → l3_1.toInt < 10 → l2_1.toInt < c1.toInt → R l3_1 l2_1 27 l3_1) →
  R s1 s2 k e1
/- tr_RInteger_stringSize: result -/
def tr_RInteger_stringSize (a0 : Int32) (o1 : Int32) : Prop := ∀ R : (Int32) → Prop,
  (a0.toInt < 0 → tl_RInteger_stringSize_16 a0 (1 : Int32) (-10 : Int32) 42 (0 : Int32) → R (11 : Int32)) →
  (∀ (x1 : Int32) (x2 : Int32), a0.toInt < 0 → tl_RInteger_stringSize_16 a0 (1 : Int32) (-10 : Int32) 27 x1 → x2.toInt = x1.toInt + 1 → R x2) →
  (∀ (x1 : Int32), 0 ≤ a0.toInt → x1 = -a0 → tl_RInteger_stringSize_16_2 x1 (1 : Int32) (-10 : Int32) 42 (0 : Int32) → R (10 : Int32)) →
  (∀ (x1 : Int32) (x2 : Int32) (x3 : Int32), 0 ≤ a0.toInt → x1 = -a0 → tl_RInteger_stringSize_16_2 x1 (1 : Int32) (-10 : Int32) 27 x2 → x3.toInt = x2.toInt + 0 → R x3) →
  R o1
abbrev ky_667414_Integer_stringSize : gKey := (cJ6_stringSize_0f7a4, 4, "java/lang/Integer", (some FieldType.int), [], "stringSize", fun _ _ => True)
def pp_667414_Integer_stringSize (D : va_G) (I : FieldType → ClassId) (P667411 : List Nat) (F667412 : Nat → va_E) (p667413 : Int32) : Option Value → va_W → Nat → Nat → Prop := fun r w dc ds => ∃ (o667545 : Int32), r = some (.int o667545) ∧ w = va_pl P667411 F667412 ∧ dc ≤ 0 ∧ ds ≤ 0 ∧ gB o667545 1 11 ∧ dgS p667413.toInt o667545.toInt ∧ tr_RInteger_stringSize p667413 o667545
set_option maxRecDepth 100000 in
set_option maxHeartbeats 4000000 in
theorem cp_667414_Integer_stringSize (l : Launch) (hl0 : l.stackTraces = false) (D : va_G) (I : FieldType → ClassId) (P667411 : List Nat) (F667412 : Nat → va_E) (p667413 : Int32)  : CtA (gV D I) l yJ6_stringSize_0f7a4 cJ6_stringSize_0f7a4 4 (some FieldType.int) 0 0 0 0 [.int p667413] (va_pl P667411 F667412) (pp_667414_Integer_stringSize D I P667411 F667412 p667413) gNA := by
  refine CtA_ofF hl0 (by decide +kernel) (Nat.le_of_ble_eq_true rfl) ?_
  have bp667413 := gB_any p667413
  refine G_iconst 1 dr_cJ6_stringSize_0f7a4_0 (by decide +kernel) ?_
  refine G_istore_n (L' := [(1, .int 1), (0, .int p667413)]) dr_cJ6_stringSize_0f7a4_1 (Nat.le_of_ble_eq_true rfl) rfl ?_
  refine G_iload_n 1 dr_cJ6_stringSize_0f7a4_2 rfl ?_
  refine G_if_lt 11 dr_cJ6_stringSize_0f7a4_3 (by decide +kernel) (fun hc667415 => ?_) (fun hc667415 => ?_)
  · have r667416 : p667413.toInt < 0 := gj_lt hc667415 (show Int32.toInt 0 = 0 by decide)
    have bp667413' : gB p667413 (-2147483648) (-1) := ⟨by omega, by omega⟩
    refine G_bipush (-10) dr_cJ6_stringSize_0f7a4_11 (by decide +kernel) ?_
    refine G_istore_n (L' := [(2, .int (-10)), (1, .int 1), (0, .int p667413)]) dr_cJ6_stringSize_0f7a4_13 (Nat.le_of_ble_eq_true rfl) rfl ?_
    refine G_iconst 1 dr_cJ6_stringSize_0f7a4_14 (by decide +kernel) ?_
    refine G_istore_n (L' := [(3, .int 1), (2, .int (-10)), (1, .int 1), (0, .int p667413)]) dr_cJ6_stringSize_0f7a4_15 (Nat.le_of_ble_eq_true rfl) rfl ?_
    have hlp16_667468 : ∀ (n16_667468 : Nat) (g667466 : Int32) (g667467 : Int32), gB g667466 1 10 → ssI g667466 g667467 → (∀ (k : Nat) (e1 : Int32), tl_RInteger_stringSize_16 p667413 g667466 g667467 k e1 → tl_RInteger_stringSize_16 p667413 (1 : Int32) (-10 : Int32) k e1) → ((11 : Int) - g667466.toInt).toNat < n16_667468 → G (gV D I) l (gRm 0 0 0 0) (gMA (gV D I) (pp_667414_Integer_stringSize D I P667411 F667412 p667413) gNA 0 0) ky_667414_Integer_stringSize 16 [(3, .int g667466), (2, .int g667467), (1, .int 1), (0, .int p667413)] [] (va_pl P667411 F667412) 0 0 := by
      intro n16_667468
      induction n16_667468 with
      | zero => intro g667466 g667467 bg667466 x667468 kt16_667468 hm16_667468; exact absurd hm16_667468 (Nat.not_lt_zero _)
      | succ n16_667468 ih16_667468 =>
        intro g667466 g667467 bg667466 x667468 kt16_667468 hm16_667468
        have bg667467 := gB_any g667467
        refine G_iload_n 0 dr_cJ6_stringSize_0f7a4_16 rfl ?_
        refine G_bipush 10 dr_cJ6_stringSize_0f7a4_17 (by decide +kernel) ?_
        refine G_icmp_ge 42 dr_cJ6_stringSize_0f7a4_19 (by decide +kernel) (fun hc667469 => ?_) (fun hc667469 => ?_)
        · have r667470 : 10 ≤ g667466.toInt := gj_leL hc667469 (show Int32.toInt 10 = 10 by decide)
          have bg667466' : gB g667466 10 10 := ⟨by omega, by omega⟩
          have hx667471 : tl_RInteger_stringSize_16 p667413 (1 : Int32) (-10 : Int32) 42 (0 : Int32) := kt16_667468 42 (0 : Int32) (fun R c1 c2 c3 => c1 g667466 g667467 bg667466 r667470)
          refine G_bipush 10 dr_cJ6_stringSize_0f7a4_42 (by decide +kernel) ?_
          refine G_iload_n 2 dr_cJ6_stringSize_0f7a4_44 rfl ?_
          refine G_iadd dr_cJ6_stringSize_0f7a4_45 ?_
          refine G_eqi (y := 11) (by decide) ?_
          exact G_iretA dr_cJ6_stringSize_0f7a4_46 rfl (Nat.le_of_ble_eq_true rfl) (Nat.le_of_ble_eq_true rfl) ⟨11, rfl, rfl, (Nat.le_of_ble_eq_true rfl), (Nat.le_of_ble_eq_true rfl), (gB_w (gBl (show Int32.toInt 11 = 11 by decide)) (by decide) (by decide)), (by have q10 : Int32.toInt 10 = 10 := (by decide); have q11 : Int32.toInt 11 = 11 := (by decide); first | exact dgS_p (x := -p667413.toInt) (by omega) rfl (dgB_up (ssI_r x667468 (by omega) (fun _ => by omega)) (by omega) (by omega)) | exact dgS_n (by omega) (by omega) (ssI_r x667468 (by omega) (fun _ => by omega))), (fun R c1 c2 c3 c4 => c1 r667416 hx667471)⟩
        · have r667472 : g667466.toInt < 10 := gj_nleL hc667469 (show Int32.toInt 10 = 10 by decide)
          have bg667466' : gB g667466 1 9 := ⟨by omega, by omega⟩
          refine G_iload_n 3 dr_cJ6_stringSize_0f7a4_22 rfl ?_
          refine G_iload_n 1 dr_cJ6_stringSize_0f7a4_23 rfl ?_
          refine G_icmp_le 31 dr_cJ6_stringSize_0f7a4_24 (by decide +kernel) (fun hc667473 => ?_) (fun hc667473 => ?_)
          · have r667474 : p667413.toInt ≤ g667467.toInt := gC_le hc667473
            refine G_bipush 10 dr_cJ6_stringSize_0f7a4_31 (by decide +kernel) ?_
            refine G_iload_n 1 dr_cJ6_stringSize_0f7a4_33 rfl ?_
            refine G_imul dr_cJ6_stringSize_0f7a4_34 (G_nam fun z667475 hz667475 => ?_)
            have bz667475 : gB z667475 (-2147483648) 2147483647 := gB_any z667475
            refine G_istore_n (L' := [(2, .int z667475), (3, .int g667466), (1, .int 1), (0, .int p667413)]) dr_cJ6_stringSize_0f7a4_35 (Nat.le_of_ble_eq_true rfl) rfl ?_
            obtain ⟨z667476, hz667476⟩ : ∃ z : Int32, z = g667466 + Int32.ofInt 1 := ⟨_, rfl⟩
            have ez667476 : z667476.toInt = g667466.toInt + 1 := gI_inc hz667476 (by decide) bg667466' (by decide) (by decide)
            have bz667476 : gB z667476 2 10 := ⟨by omega, by omega⟩
            refine G_iinc (L' := [(3, .int z667476), (2, .int z667475), (1, .int 1), (0, .int p667413)]) z667476 1 dr_cJ6_stringSize_0f7a4_36 rfl hz667476.symm (Nat.le_of_ble_eq_true rfl) rfl ?_
            refine G_goto 16 dr_cJ6_stringSize_0f7a4_39 (by decide +kernel) ?_
            exact ih16_667468 z667476 z667475 (gB_w bz667476 (by decide) (by decide)) (ssI_st x667468 (by omega) (by omega) hz667475) (fun k e1 ht => kt16_667468 k e1 (fun R c1 c2 c3 => c2 g667466 g667467 z667475 z667476 k e1 bg667466 r667472 r667474 hz667475 ez667476 (ht R c1 c2 c3))) (by have qa0 : Int32.toInt 1 = 1 := (by decide); omega)
          · have r667477 : g667467.toInt < p667413.toInt := gC_nle hc667473
            have bg667467' : gB g667467 (-2147483648) (-2) := ⟨by omega, by omega⟩
            have bp667413'' : gB p667413 (-2147483647) (-1) := ⟨by omega, by omega⟩
            have hx667478 : tl_RInteger_stringSize_16 p667413 (1 : Int32) (-10 : Int32) 27 g667466 := kt16_667468 27 g667466 (fun R c1 c2 c3 => c3 g667466 g667467 bg667466 r667472 r667477)
            refine G_iload_n 0 dr_cJ6_stringSize_0f7a4_27 rfl ?_
            refine G_iload_n 2 dr_cJ6_stringSize_0f7a4_28 rfl ?_
            refine G_iadd dr_cJ6_stringSize_0f7a4_29 (G_nam fun z667479 hz667479 => ?_)
            have ez667479 : z667479.toInt = g667466.toInt + 1 := by rw [gI_add hz667479 bg667466' (gBl (show Int32.toInt 1 = 1 by decide)) (by decide) (by decide), show Int32.toInt 1 = 1 from by decide]
            have bz667479 : gB z667479 2 10 := gB_add (gI_add hz667479 bg667466' (gBl (show Int32.toInt 1 = 1 by decide)) (by decide) (by decide)) bg667466' (gBl (show Int32.toInt 1 = 1 by decide)) (by decide) (by decide)
            exact G_iretA dr_cJ6_stringSize_0f7a4_30 rfl (Nat.le_of_ble_eq_true rfl) (Nat.le_of_ble_eq_true rfl) ⟨z667479, rfl, rfl, (Nat.le_of_ble_eq_true rfl), (Nat.le_of_ble_eq_true rfl), (gB_w bz667479 (by decide) (by decide)), (by have q10 : Int32.toInt 10 = 10 := (by decide); have q11 : Int32.toInt 11 = 11 := (by decide); first | exact dgS_p (x := -p667413.toInt) (by omega) rfl (dgB_up (ssI_r x667468 (by omega) (fun _ => by omega)) (by omega) (by omega)) | exact dgS_n (by omega) (by omega) (ssI_r x667468 (by omega) (fun _ => by omega))), (fun R c1 c2 c3 c4 => c2 g667466 z667479 r667416 hx667478 ez667479)⟩
    exact hlp16_667468 (((11 : Int) - 1).toNat + 1) 1 (-10) (gB_w (gBl (show Int32.toInt 1 = 1 by decide)) (by decide) (by decide)) ssI_0 (fun k e1 ht => ht) (Nat.lt_succ_self _)
  · have r667480 : 0 ≤ p667413.toInt := gj_nlt hc667415 (show Int32.toInt 0 = 0 by decide)
    have bp667413' : gB p667413 0 2147483647 := ⟨by omega, by omega⟩
    refine G_iconst 0 dr_cJ6_stringSize_0f7a4_6 (by decide +kernel) ?_
    refine G_istore_n (L' := [(1, .int 0), (0, .int p667413)]) dr_cJ6_stringSize_0f7a4_7 (Nat.le_of_ble_eq_true rfl) rfl ?_
    refine G_iload_n 1 dr_cJ6_stringSize_0f7a4_8 rfl ?_
    refine G_ineg dr_cJ6_stringSize_0f7a4_9 (G_nam fun z667481 hz667481 => ?_)
    have ez667481 : z667481.toInt = -p667413.toInt := gI_neg hz667481 bp667413' (by decide)
    have bz667481 : gB z667481 (-2147483647) 0 := ⟨by omega, by omega⟩
    refine G_istore_n (L' := [(0, .int z667481), (1, .int 0)]) dr_cJ6_stringSize_0f7a4_10 (Nat.le_of_ble_eq_true rfl) rfl ?_
    refine G_bipush (-10) dr_cJ6_stringSize_0f7a4_11 (by decide +kernel) ?_
    refine G_istore_n (L' := [(2, .int (-10)), (0, .int z667481), (1, .int 0)]) dr_cJ6_stringSize_0f7a4_13 (Nat.le_of_ble_eq_true rfl) rfl ?_
    refine G_iconst 1 dr_cJ6_stringSize_0f7a4_14 (by decide +kernel) ?_
    refine G_istore_n (L' := [(3, .int 1), (2, .int (-10)), (0, .int z667481), (1, .int 0)]) dr_cJ6_stringSize_0f7a4_15 (Nat.le_of_ble_eq_true rfl) rfl ?_
    have hlp16_667533 : ∀ (n16_667533 : Nat) (g667531 : Int32) (g667532 : Int32), gB g667531 1 10 → ssI g667531 g667532 → (∀ (k : Nat) (e1 : Int32), tl_RInteger_stringSize_16_2 z667481 g667531 g667532 k e1 → tl_RInteger_stringSize_16_2 z667481 (1 : Int32) (-10 : Int32) k e1) → ((11 : Int) - g667531.toInt).toNat < n16_667533 → G (gV D I) l (gRm 0 0 0 0) (gMA (gV D I) (pp_667414_Integer_stringSize D I P667411 F667412 p667413) gNA 0 0) ky_667414_Integer_stringSize 16 [(3, .int g667531), (2, .int g667532), (0, .int z667481), (1, .int 0)] [] (va_pl P667411 F667412) 0 0 := by
      intro n16_667533
      induction n16_667533 with
      | zero => intro g667531 g667532 bg667531 x667533 kt16_667533 hm16_667533; exact absurd hm16_667533 (Nat.not_lt_zero _)
      | succ n16_667533 ih16_667533 =>
        intro g667531 g667532 bg667531 x667533 kt16_667533 hm16_667533
        have bg667532 := gB_any g667532
        refine G_iload_n 0 dr_cJ6_stringSize_0f7a4_16 rfl ?_
        refine G_bipush 10 dr_cJ6_stringSize_0f7a4_17 (by decide +kernel) ?_
        refine G_icmp_ge 42 dr_cJ6_stringSize_0f7a4_19 (by decide +kernel) (fun hc667534 => ?_) (fun hc667534 => ?_)
        · have r667535 : 10 ≤ g667531.toInt := gj_leL hc667534 (show Int32.toInt 10 = 10 by decide)
          have bg667531' : gB g667531 10 10 := ⟨by omega, by omega⟩
          have hx667536 : tl_RInteger_stringSize_16_2 z667481 (1 : Int32) (-10 : Int32) 42 (0 : Int32) := kt16_667533 42 (0 : Int32) (fun R c1 c2 c3 => c1 g667531 g667532 bg667531 r667535)
          refine G_bipush 10 dr_cJ6_stringSize_0f7a4_42 (by decide +kernel) ?_
          refine G_iload_n 3 dr_cJ6_stringSize_0f7a4_44 rfl ?_
          refine G_iadd dr_cJ6_stringSize_0f7a4_45 ?_
          refine G_eqi (y := 10) (by decide) ?_
          exact G_iretA dr_cJ6_stringSize_0f7a4_46 rfl (Nat.le_of_ble_eq_true rfl) (Nat.le_of_ble_eq_true rfl) ⟨10, rfl, rfl, (Nat.le_of_ble_eq_true rfl), (Nat.le_of_ble_eq_true rfl), (gB_w (gBl (show Int32.toInt 10 = 10 by decide)) (by decide) (by decide)), (by have q10 : Int32.toInt 10 = 10 := (by decide); have q11 : Int32.toInt 11 = 11 := (by decide); first | exact dgS_p (x := -p667413.toInt) (by omega) rfl (dgB_up (ssI_r x667533 (by omega) (fun _ => by omega)) (by omega) (by omega)) | exact dgS_n (by omega) (by omega) (ssI_r x667533 (by omega) (fun _ => by omega))), (fun R c1 c2 c3 c4 => c3 z667481 r667480 hz667481 hx667536)⟩
        · have r667537 : g667531.toInt < 10 := gj_nleL hc667534 (show Int32.toInt 10 = 10 by decide)
          have bg667531' : gB g667531 1 9 := ⟨by omega, by omega⟩
          refine G_iload_n 2 dr_cJ6_stringSize_0f7a4_22 rfl ?_
          refine G_iload_n 1 dr_cJ6_stringSize_0f7a4_23 rfl ?_
          refine G_icmp_le 31 dr_cJ6_stringSize_0f7a4_24 (by decide +kernel) (fun hc667538 => ?_) (fun hc667538 => ?_)
          · have r667539 : z667481.toInt ≤ g667532.toInt := gC_le hc667538
            have bg667532' : gB g667532 (-2147483647) 2147483647 := ⟨by omega, by omega⟩
            refine G_bipush 10 dr_cJ6_stringSize_0f7a4_31 (by decide +kernel) ?_
            refine G_iload_n 1 dr_cJ6_stringSize_0f7a4_33 rfl ?_
            refine G_imul dr_cJ6_stringSize_0f7a4_34 (G_nam fun z667540 hz667540 => ?_)
            have bz667540 : gB z667540 (-2147483648) 2147483647 := gB_any z667540
            refine G_istore_n (L' := [(2, .int z667540), (3, .int g667531), (0, .int z667481), (1, .int 0)]) dr_cJ6_stringSize_0f7a4_35 (Nat.le_of_ble_eq_true rfl) rfl ?_
            obtain ⟨z667541, hz667541⟩ : ∃ z : Int32, z = g667531 + Int32.ofInt 1 := ⟨_, rfl⟩
            have ez667541 : z667541.toInt = g667531.toInt + 1 := gI_inc hz667541 (by decide) bg667531' (by decide) (by decide)
            have bz667541 : gB z667541 2 10 := ⟨by omega, by omega⟩
            refine G_iinc (L' := [(3, .int z667541), (2, .int z667540), (0, .int z667481), (1, .int 0)]) z667541 1 dr_cJ6_stringSize_0f7a4_36 rfl hz667541.symm (Nat.le_of_ble_eq_true rfl) rfl ?_
            refine G_goto 16 dr_cJ6_stringSize_0f7a4_39 (by decide +kernel) ?_
            exact ih16_667533 z667541 z667540 (gB_w bz667541 (by decide) (by decide)) (ssI_st x667533 (by omega) (by omega) hz667540) (fun k e1 ht => kt16_667533 k e1 (fun R c1 c2 c3 => c2 g667531 g667532 z667540 z667541 k e1 bg667531 r667537 r667539 hz667540 ez667541 (ht R c1 c2 c3))) (by have qa0 : Int32.toInt 0 = 0 := (by decide); omega)
          · have r667542 : g667532.toInt < z667481.toInt := gC_nle hc667538
            have bg667532' : gB g667532 (-2147483648) (-1) := ⟨by omega, by omega⟩
            have hx667543 : tl_RInteger_stringSize_16_2 z667481 (1 : Int32) (-10 : Int32) 27 g667531 := kt16_667533 27 g667531 (fun R c1 c2 c3 => c3 g667531 g667532 bg667531 r667537 r667542)
            refine G_iload_n 0 dr_cJ6_stringSize_0f7a4_27 rfl ?_
            refine G_iload_n 3 dr_cJ6_stringSize_0f7a4_28 rfl ?_
            refine G_iadd dr_cJ6_stringSize_0f7a4_29 (G_nam fun z667544 hz667544 => ?_)
            have ez667544 : z667544.toInt = g667531.toInt + 0 := by rw [gI_add hz667544 bg667531' (gBl (show Int32.toInt 0 = 0 by decide)) (by decide) (by decide), show Int32.toInt 0 = 0 from by decide]
            have bz667544 : gB z667544 1 9 := gB_add (gI_add hz667544 bg667531' (gBl (show Int32.toInt 0 = 0 by decide)) (by decide) (by decide)) bg667531' (gBl (show Int32.toInt 0 = 0 by decide)) (by decide) (by decide)
            exact G_iretA dr_cJ6_stringSize_0f7a4_30 rfl (Nat.le_of_ble_eq_true rfl) (Nat.le_of_ble_eq_true rfl) ⟨z667544, rfl, rfl, (Nat.le_of_ble_eq_true rfl), (Nat.le_of_ble_eq_true rfl), (gB_w bz667544 (by decide) (by decide)), (by have q10 : Int32.toInt 10 = 10 := (by decide); have q11 : Int32.toInt 11 = 11 := (by decide); first | exact dgS_p (x := -p667413.toInt) (by omega) rfl (dgB_up (ssI_r x667533 (by omega) (fun _ => by omega)) (by omega) (by omega)) | exact dgS_n (by omega) (by omega) (ssI_r x667533 (by omega) (fun _ => by omega))), (fun R c1 c2 c3 c4 => c4 z667481 g667531 z667544 r667480 hz667481 hx667543 ez667544)⟩
    exact hlp16_667533 (((11 : Int) - 1).toNat + 1) 1 (-10) (gB_w (gBl (show Int32.toInt 1 = 1 by decide)) (by decide) (by decide)) ssI_0 (fun k e1 ht => ht) (Nat.lt_succ_self _)
/- tl_RInteger_getChars_22: l0, l5, a2_v; out: l0, l5, a2_v -/
def tl_RInteger_getChars_22 (s1 : Int32) (s2 : Int32) (s3 : Nat → Int32) (k : Nat) (e1 : Int32) (e2 : Int32) (e3 : Nat → Int32) : Prop := ∀ R : (Int32) → (Int32) → (Nat → Int32) → Nat → (Int32) → (Int32) → (Nat → Int32) → Prop,
  (∀ (l0_1 : Int32) (l5_1 : Int32) (a2_v_1 : Nat → Int32), gB l0_1 (-2147483647) 0 → gB l5_1 0 16777216 → (-100) < l0_1.toInt → R l0_1 l5_1 a2_v_1 72 l0_1 l5_1 a2_v_1) →
  (∀ (l0_1 : Int32) (l5_1 : Int32) (a2_v_1 : Nat → Int32) (x1 : Int32) (x2 : Int32) (x3 : Int32) (x4 : Int32) (x5 : Int32) (x6 : Nat → Int32) (x7 : Int32) (x8 : Int32) (x9 : Nat → Int32) (k : Nat) (e1 : Int32) (e2 : Int32) (e3 : Nat → Int32), gB l0_1 (-2147483647) 0 → gB l5_1 0 16777216 → l0_1.toInt ≤ (-100) → x1.toInt = -((-l0_1.toInt) / 100) → x2.toInt = x1.toInt * 100 → x3.toInt = x2.toInt - l0_1.toInt → x4.toInt = l5_1.toInt + (-1) → x5 = dg_O x3.toNatClampNeg → x6 = upd a2_v_1 x4.toNatClampNeg (vp_nar .byte x5) → x7.toInt = x4.toInt + (-1) → x8 = dg_T x3.toNatClampNeg → x9 = upd x6 x7.toNatClampNeg (vp_nar .byte x8) → R x1 x7 x9 k e1 e2 e3 → R l0_1 l5_1 a2_v_1 k e1 e2 e3) →
  R s1 s2 s3 k e1 e2 e3
/- tl_RInteger_getChars_22_2: l5, l0, a2_v; out: l5, l0, a2_v -/
def tl_RInteger_getChars_22_2 (s1 : Int32) (s2 : Int32) (s3 : Nat → Int32) (k : Nat) (e1 : Int32) (e2 : Int32) (e3 : Nat → Int32) : Prop := ∀ R : (Int32) → (Int32) → (Nat → Int32) → Nat → (Int32) → (Int32) → (Nat → Int32) → Prop,
  (∀ (l5_1 : Int32) (l0_1 : Int32) (a2_v_1 : Nat → Int32), gB l5_1 0 16777216 → gB l0_1 (-2147483648) (-1) → (-100) < l0_1.toInt → R l5_1 l0_1 a2_v_1 72 l5_1 l0_1 a2_v_1) →
  (∀ (l5_1 : Int32) (l0_1 : Int32) (a2_v_1 : Nat → Int32) (x1 : Int32) (x2 : Int32) (x3 : Int32) (x4 : Int32) (x5 : Int32) (x6 : Nat → Int32) (x7 : Int32) (x8 : Int32) (x9 : Nat → Int32) (k : Nat) (e1 : Int32) (e2 : Int32) (e3 : Nat → Int32), gB l5_1 0 16777216 → gB l0_1 (-2147483648) (-1) → l0_1.toInt ≤ (-100) → x1.toInt = -((-l0_1.toInt) / 100) → x2.toInt = x1.toInt * 100 → x3.toInt = x2.toInt - l0_1.toInt → x4.toInt = l5_1.toInt + (-1) → x5 = dg_O x3.toNatClampNeg → x6 = upd a2_v_1 x4.toNatClampNeg (vp_nar .byte x5) → x7.toInt = x4.toInt + (-1) → x8 = dg_T x3.toNatClampNeg → x9 = upd x6 x7.toNatClampNeg (vp_nar .byte x8) → R x7 x1 x9 k e1 e2 e3 → R l5_1 l0_1 a2_v_1 k e1 e2 e3) →
  R s1 s2 s3 k e1 e2 e3
/- tr_RInteger_getChars: result, a.2.[] -/
def tr_RInteger_getChars (a0 : Int32) (a1 : Int32) (a2_v : Nat → Int32) (o1 : Int32) (o2 : Nat → Int32) : Prop := ∀ R : (Int32) → (Nat → Int32) → Prop,
  (∀ (x1 : Int32) (x2 : Int32) (x3 : Int32) (x4 : Nat → Int32) (x5 : Int32) (x6 : Int32) (x7 : Int32) (x8 : Nat → Int32), 0 ≤ a0.toInt → x1 = -a0 → tl_RInteger_getChars_22 x1 a1 a2_v 72 x2 x3 x4 → x5.toInt = x3.toInt + (-1) → x6 = -x2 → x7 = dg_O x6.toNatClampNeg → x8 = upd x4 x5.toNatClampNeg (vp_nar .byte x7) → (-9) ≤ x2.toInt → R x5 x8) →
  (∀ (x1 : Int32) (x2 : Int32) (x3 : Int32) (x4 : Nat → Int32) (x5 : Int32) (x6 : Int32) (x7 : Int32) (x8 : Nat → Int32) (x9 : Int32) (x10 : Int32) (x11 : Int32) (x12 : Nat → Int32), 0 ≤ a0.toInt → x1 = -a0 → tl_RInteger_getChars_22 x1 a1 a2_v 72 x2 x3 x4 → x5.toInt = x3.toInt + (-1) → x6 = -x2 → x7 = dg_O x6.toNatClampNeg → x8 = upd x4 x5.toNatClampNeg (vp_nar .byte x7) → x2.toInt < (-9) → x9.toInt = x5.toInt + (-1) → x10 = -x2 → x11 = dg_T x10.toNatClampNeg → x12 = upd x8 x9.toNatClampNeg (vp_nar .byte x11) → R x9 x12) →
  (∀ (x1 : Int32) (x2 : Int32) (x3 : Nat → Int32) (x4 : Int32) (x5 : Int32) (x6 : Int32) (x7 : Nat → Int32) (x8 : Int32) (x9 : Nat → Int32), a0.toInt < 0 → tl_RInteger_getChars_22_2 a1 a0 a2_v 72 x1 x2 x3 → x4.toInt = x1.toInt + (-1) → x5 = -x2 → x6 = dg_O x5.toNatClampNeg → x7 = upd x3 x4.toNatClampNeg (vp_nar .byte x6) → (-9) ≤ x2.toInt → x8.toInt = x4.toInt + (-1) → x9 = upd x7 x8.toNatClampNeg (vp_nar .byte 45) → R x8 x9) →
  (∀ (x1 : Int32) (x2 : Int32) (x3 : Nat → Int32) (x4 : Int32) (x5 : Int32) (x6 : Int32) (x7 : Nat → Int32) (x8 : Int32) (x9 : Int32) (x10 : Int32) (x11 : Nat → Int32) (x12 : Int32) (x13 : Nat → Int32), a0.toInt < 0 → tl_RInteger_getChars_22_2 a1 a0 a2_v 72 x1 x2 x3 → x4.toInt = x1.toInt + (-1) → x5 = -x2 → x6 = dg_O x5.toNatClampNeg → x7 = upd x3 x4.toNatClampNeg (vp_nar .byte x6) → x2.toInt < (-9) → x8.toInt = x4.toInt + (-1) → x9 = -x2 → x10 = dg_T x9.toNatClampNeg → x11 = upd x7 x8.toNatClampNeg (vp_nar .byte x10) → x12.toInt = x8.toInt + (-1) → x13 = upd x11 x12.toNatClampNeg (vp_nar .byte 45) → R x12 x13) →
  R o1 o2
