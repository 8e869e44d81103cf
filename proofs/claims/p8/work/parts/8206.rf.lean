theorem dr_cJ1_indexOf_b82b6_0 : decode cJ1_indexOf_b82b6 0 = .ok (.aload_n 1, 1) := by decide +kernel
theorem dr_cJ1_indexOf_b82b6_1 : decode cJ1_indexOf_b82b6 1 = .ok (.arraylength, 1) := by decide +kernel
theorem dr_cJ1_indexOf_b82b6_2 : decode cJ1_indexOf_b82b6 2 = .ok (.ifCond .ne 5, 3) := by decide +kernel
theorem dr_cJ1_indexOf_b82b6_7 : decode cJ1_indexOf_b82b6 7 = .ok (.aload_n 0, 1) := by decide +kernel
theorem dr_cJ1_indexOf_b82b6_8 : decode cJ1_indexOf_b82b6 8 = .ok (.arraylength, 1) := by decide +kernel
theorem dr_cJ1_indexOf_b82b6_9 : decode cJ1_indexOf_b82b6 9 = .ok (.ifCond .ne 5, 3) := by decide +kernel
theorem dr_cJ1_indexOf_b82b6_14 : decode cJ1_indexOf_b82b6 14 = .ok (.aload_n 0, 1) := by decide +kernel
theorem dr_cJ1_indexOf_b82b6_15 : decode cJ1_indexOf_b82b6 15 = .ok (.aload_n 0, 1) := by decide +kernel
theorem dr_cJ1_indexOf_b82b6_16 : decode cJ1_indexOf_b82b6 16 = .ok (.arraylength, 1) := by decide +kernel
theorem dr_cJ1_indexOf_b82b6_17 : decode cJ1_indexOf_b82b6 17 = .ok (.aload_n 1, 1) := by decide +kernel
theorem dr_cJ1_indexOf_b82b6_18 : decode cJ1_indexOf_b82b6 18 = .ok (.aload_n 1, 1) := by decide +kernel
theorem dr_cJ1_indexOf_b82b6_19 : decode cJ1_indexOf_b82b6 19 = .ok (.arraylength, 1) := by decide +kernel
theorem dr_cJ1_indexOf_b82b6_20 : decode cJ1_indexOf_b82b6 20 = .ok (.iconst 0, 1) := by decide +kernel
theorem dr_cJ1_indexOf_b82b6_21 : decode cJ1_indexOf_b82b6 21 = .ok (.invokestatic 99, 3) := by decide +kernel
theorem wr_8_203 : (Jvm.Cond.methodLink "java/lang/StringLatin1" (99 : Nat) ({ cls := "java/lang/StringLatin1", name := "indexOf", desc := "([BI[BII)I" } : Jvm.MethodName)) ∈ gw := gw_8 203 rfl rfl
theorem wr_8_205 : (Jvm.Cond.code ({ cls := "java/lang/StringLatin1", name := "indexOf", desc := "([BI[BII)I" } : Jvm.MethodName) prog_37_method_25_code (11 : Nat) (Option.some Jvm.ClassFile.FieldType.int)) ∈ gw := gw_8 205 rfl rfl
theorem wr_8_204 : (Jvm.Cond.static ({ cls := "java/lang/StringLatin1", name := "indexOf", desc := "([BI[BII)I" } : Jvm.MethodName)) ∈ gw := gw_8 204 rfl rfl
theorem dr_cJ1_indexOf_b82b6_24 : decode cJ1_indexOf_b82b6 24 = .ok (.ireturn, 1) := by decide +kernel
theorem dr_cJ1_indexOf_b82b6_12 : decode cJ1_indexOf_b82b6 12 = .ok (.iconst (-1), 1) := by decide +kernel
theorem dr_cJ1_indexOf_b82b6_13 : decode cJ1_indexOf_b82b6 13 = .ok (.ireturn, 1) := by decide +kernel
theorem dr_cJ0_indexOf_2f485_0 : decode cJ0_indexOf_2f485 0 = .ok (.aload_n 0, 1) := by decide +kernel
theorem dr_cJ0_indexOf_2f485_1 : decode cJ0_indexOf_2f485 1 = .ok (.invokevirtual 335, 3) := by decide +kernel
theorem dr_cJ0_indexOf_2f485_4 : decode cJ0_indexOf_2f485 4 = .ok (.istore_n 2, 1) := by decide +kernel
theorem dr_cJ0_indexOf_2f485_5 : decode cJ0_indexOf_2f485 5 = .ok (.iload_n 2, 1) := by decide +kernel
theorem dr_cJ0_indexOf_2f485_6 : decode cJ0_indexOf_2f485 6 = .ok (.aload_n 1, 1) := by decide +kernel
theorem dr_cJ0_indexOf_2f485_7 : decode cJ0_indexOf_2f485 7 = .ok (.invokevirtual 335, 3) := by decide +kernel
theorem dr_cJ0_indexOf_2f485_10 : decode cJ0_indexOf_2f485 10 = .ok (.if_icmp .ne 36, 3) := by decide +kernel
theorem dr_cJ0_indexOf_2f485_13 : decode cJ0_indexOf_2f485 13 = .ok (.aload_n 0, 1) := by decide +kernel
theorem dr_cJ0_indexOf_2f485_14 : decode cJ0_indexOf_2f485 14 = .ok (.invokevirtual 492, 3) := by decide +kernel
theorem dr_cJ0_indexOf_2f485_17 : decode cJ0_indexOf_2f485 17 = .ok (.ifCond .eq 17, 3) := by decide +kernel
theorem dr_cJ0_indexOf_2f485_20 : decode cJ0_indexOf_2f485 20 = .ok (.aload_n 0, 1) := by decide +kernel
theorem dr_cJ0_indexOf_2f485_21 : decode cJ0_indexOf_2f485 21 = .ok (.getfield 9, 3) := by decide +kernel
theorem dr_cJ0_indexOf_2f485_24 : decode cJ0_indexOf_2f485 24 = .ok (.aload_n 1, 1) := by decide +kernel
theorem dr_cJ0_indexOf_2f485_25 : decode cJ0_indexOf_2f485 25 = .ok (.getfield 9, 3) := by decide +kernel
theorem dr_cJ0_indexOf_2f485_28 : decode cJ0_indexOf_2f485 28 = .ok (.invokestatic 647, 3) := by decide +kernel
theorem wr_8_200 : (Jvm.Cond.methodLink "java/lang/String" (647 : Nat) ({ cls := "java/lang/StringLatin1", name := "indexOf", desc := "([B[B)I" } : Jvm.MethodName)) ∈ gw := gw_8 200 rfl rfl
theorem wr_8_202 : (Jvm.Cond.code ({ cls := "java/lang/StringLatin1", name := "indexOf", desc := "([B[B)I" } : Jvm.MethodName) prog_37_method_24_code (2 : Nat) (Option.some Jvm.ClassFile.FieldType.int)) ∈ gw := gw_8 202 rfl rfl
theorem wr_8_201 : (Jvm.Cond.static ({ cls := "java/lang/StringLatin1", name := "indexOf", desc := "([B[B)I" } : Jvm.MethodName)) ∈ gw := gw_8 201 rfl rfl
theorem dr_cJ0_indexOf_2f485_31 : decode cJ0_indexOf_2f485 31 = .ok (.goto 14, 3) := by decide +kernel
theorem dr_cJ0_indexOf_2f485_45 : decode cJ0_indexOf_2f485 45 = .ok (.ireturn, 1) := by decide +kernel
theorem dr_cJ1_canEncode_9a6ad_0 : decode cJ1_canEncode_9a6ad 0 = .ok (.iload_n 0, 1) := by decide +kernel
theorem dr_cJ1_canEncode_9a6ad_1 : decode cJ1_canEncode_9a6ad 1 = .ok (.ifCond .lt 14, 3) := by decide +kernel
theorem dr_cJ1_canEncode_9a6ad_15 : decode cJ1_canEncode_9a6ad 15 = .ok (.iconst 0, 1) := by decide +kernel
theorem dr_cJ1_canEncode_9a6ad_16 : decode cJ1_canEncode_9a6ad 16 = .ok (.ireturn, 1) := by decide +kernel
theorem dr_cJ1_canEncode_9a6ad_4 : decode cJ1_canEncode_9a6ad 4 = .ok (.iload_n 0, 1) := by decide +kernel
theorem dr_cJ1_canEncode_9a6ad_5 : decode cJ1_canEncode_9a6ad 5 = .ok (.sipush 255, 3) := by decide +kernel
theorem dr_cJ1_canEncode_9a6ad_8 : decode cJ1_canEncode_9a6ad 8 = .ok (.if_icmp .gt 7, 3) := by decide +kernel
theorem dr_cJ1_canEncode_9a6ad_11 : decode cJ1_canEncode_9a6ad 11 = .ok (.iconst 1, 1) := by decide +kernel
theorem dr_cJ1_canEncode_9a6ad_12 : decode cJ1_canEncode_9a6ad 12 = .ok (.goto 4, 3) := by decide +kernel
theorem dr_cJ1_indexOfChar_4cfef_0 : decode cJ1_indexOfChar_4cfef 0 = .ok (.iload_n 1, 1) := by decide +kernel
theorem dr_cJ1_indexOfChar_4cfef_1 : decode cJ1_indexOfChar_4cfef 1 = .ok (.i2b, 1) := by decide +kernel
theorem dr_cJ1_indexOfChar_4cfef_2 : decode cJ1_indexOfChar_4cfef 2 = .ok (.istore 4, 2) := by decide +kernel
theorem dr_cJ1_indexOfChar_4cfef_4 : decode cJ1_indexOfChar_4cfef 4 = .ok (.iload_n 2, 1) := by decide +kernel
theorem dr_cJ1_indexOfChar_4cfef_5 : decode cJ1_indexOfChar_4cfef 5 = .ok (.istore 5, 2) := by decide +kernel
theorem dr_cJ1_indexOfChar_4cfef_7 : decode cJ1_indexOfChar_4cfef 7 = .ok (.iload 5, 2) := by decide +kernel
theorem dr_cJ1_indexOfChar_4cfef_9 : decode cJ1_indexOfChar_4cfef 9 = .ok (.iload_n 3, 1) := by decide +kernel
theorem dr_cJ1_indexOfChar_4cfef_10 : decode cJ1_indexOfChar_4cfef 10 = .ok (.if_icmp .ge 21, 3) := by decide +kernel
theorem dr_cJ1_indexOfChar_4cfef_31 : decode cJ1_indexOfChar_4cfef 31 = .ok (.iconst (-1), 1) := by decide +kernel
theorem dr_cJ1_indexOfChar_4cfef_32 : decode cJ1_indexOfChar_4cfef 32 = .ok (.ireturn, 1) := by decide +kernel
theorem dr_cJ1_indexOfChar_4cfef_13 : decode cJ1_indexOfChar_4cfef 13 = .ok (.aload_n 0, 1) := by decide +kernel
theorem dr_cJ1_indexOfChar_4cfef_14 : decode cJ1_indexOfChar_4cfef 14 = .ok (.iload 5, 2) := by decide +kernel
theorem dr_cJ1_indexOfChar_4cfef_16 : decode cJ1_indexOfChar_4cfef 16 = .ok (.baload, 1) := by decide +kernel
theorem dr_cJ1_indexOfChar_4cfef_17 : decode cJ1_indexOfChar_4cfef 17 = .ok (.iload 4, 2) := by decide +kernel
theorem dr_cJ1_indexOfChar_4cfef_19 : decode cJ1_indexOfChar_4cfef 19 = .ok (.if_icmp .ne 6, 3) := by decide +kernel
theorem dr_cJ1_indexOfChar_4cfef_25 : decode cJ1_indexOfChar_4cfef 25 = .ok (.iinc 5 1, 3) := by decide +kernel
theorem dr_cJ1_indexOfChar_4cfef_28 : decode cJ1_indexOfChar_4cfef 28 = .ok (.goto (-21), 3) := by decide +kernel
theorem dr_cJ1_indexOfChar_4cfef_22 : decode cJ1_indexOfChar_4cfef 22 = .ok (.iload 5, 2) := by decide +kernel
theorem dr_cJ1_indexOfChar_4cfef_24 : decode cJ1_indexOfChar_4cfef 24 = .ok (.ireturn, 1) := by decide +kernel
theorem dr_cJ1_indexOf_4cfef_0 : decode cJ1_indexOf_4cfef 0 = .ok (.iload_n 1, 1) := by decide +kernel
theorem dr_cJ1_indexOf_4cfef_1 : decode cJ1_indexOf_4cfef 1 = .ok (.invokestatic 88, 3) := by decide +kernel
theorem wr_9_2 : (Jvm.Cond.methodLink "java/lang/StringLatin1" (88 : Nat) ({ cls := "java/lang/StringLatin1", name := "canEncode", desc := "(I)Z" } : Jvm.MethodName)) ∈ gw := gw_9 2 rfl rfl
theorem wr_9_4 : (Jvm.Cond.code ({ cls := "java/lang/StringLatin1", name := "canEncode", desc := "(I)Z" } : Jvm.MethodName) prog_37_method_4_code (1 : Nat) (Option.some Jvm.ClassFile.FieldType.boolean)) ∈ gw := gw_9 4 rfl rfl
theorem wr_9_3 : (Jvm.Cond.static ({ cls := "java/lang/StringLatin1", name := "canEncode", desc := "(I)Z" } : Jvm.MethodName)) ∈ gw := gw_9 3 rfl rfl
theorem dr_cJ1_indexOf_4cfef_4 : decode cJ1_indexOf_4cfef 4 = .ok (.ifCond .ne 5, 3) := by decide +kernel
theorem dr_cJ1_indexOf_4cfef_7 : decode cJ1_indexOf_4cfef 7 = .ok (.iconst (-1), 1) := by decide +kernel
theorem dr_cJ1_indexOf_4cfef_8 : decode cJ1_indexOf_4cfef 8 = .ok (.ireturn, 1) := by decide +kernel
theorem dr_cJ1_indexOf_4cfef_9 : decode cJ1_indexOf_4cfef 9 = .ok (.iload_n 2, 1) := by decide +kernel
theorem dr_cJ1_indexOf_4cfef_10 : decode cJ1_indexOf_4cfef 10 = .ok (.iconst 0, 1) := by decide +kernel
theorem dr_cJ1_indexOf_4cfef_11 : decode cJ1_indexOf_4cfef 11 = .ok (.invokestatic 92, 3) := by decide +kernel
theorem wr_9_5 : (Jvm.Cond.methodLink "java/lang/StringLatin1" (92 : Nat) ({ cls := "java/lang/Math", name := "max", desc := "(II)I" } : Jvm.MethodName)) ∈ gw := gw_9 5 rfl rfl
theorem dr_cJ1_indexOf_4cfef_14 : decode cJ1_indexOf_4cfef 14 = .ok (.istore_n 2, 1) := by decide +kernel
theorem dr_cJ1_indexOf_4cfef_15 : decode cJ1_indexOf_4cfef 15 = .ok (.iload_n 3, 1) := by decide +kernel
theorem dr_cJ1_indexOf_4cfef_16 : decode cJ1_indexOf_4cfef 16 = .ok (.aload_n 0, 1) := by decide +kernel
theorem dr_cJ1_indexOf_4cfef_17 : decode cJ1_indexOf_4cfef 17 = .ok (.arraylength, 1) := by decide +kernel
theorem dr_cJ1_indexOf_4cfef_18 : decode cJ1_indexOf_4cfef 18 = .ok (.invokestatic 38, 3) := by decide +kernel
theorem wr_9_6 : (Jvm.Cond.methodLink "java/lang/StringLatin1" (38 : Nat) ({ cls := "java/lang/Math", name := "min", desc := "(II)I" } : Jvm.MethodName)) ∈ gw := gw_9 6 rfl rfl
theorem dr_cJ1_indexOf_4cfef_21 : decode cJ1_indexOf_4cfef 21 = .ok (.istore_n 3, 1) := by decide +kernel
theorem dr_cJ1_indexOf_4cfef_22 : decode cJ1_indexOf_4cfef 22 = .ok (.iload_n 2, 1) := by decide +kernel
theorem dr_cJ1_indexOf_4cfef_23 : decode cJ1_indexOf_4cfef 23 = .ok (.iload_n 3, 1) := by decide +kernel
theorem dr_cJ1_indexOf_4cfef_24 : decode cJ1_indexOf_4cfef 24 = .ok (.if_icmp .lt 5, 3) := by decide +kernel
theorem dr_cJ1_indexOf_4cfef_29 : decode cJ1_indexOf_4cfef 29 = .ok (.aload_n 0, 1) := by decide +kernel
theorem dr_cJ1_indexOf_4cfef_30 : decode cJ1_indexOf_4cfef 30 = .ok (.iload_n 1, 1) := by decide +kernel
theorem dr_cJ1_indexOf_4cfef_31 : decode cJ1_indexOf_4cfef 31 = .ok (.iload_n 2, 1) := by decide +kernel
theorem dr_cJ1_indexOf_4cfef_32 : decode cJ1_indexOf_4cfef 32 = .ok (.iload_n 3, 1) := by decide +kernel
theorem dr_cJ1_indexOf_4cfef_33 : decode cJ1_indexOf_4cfef 33 = .ok (.invokestatic 95, 3) := by decide +kernel
theorem wr_9_7 : (Jvm.Cond.methodLink "java/lang/StringLatin1" (95 : Nat) ({ cls := "java/lang/StringLatin1", name := "indexOfChar", desc := "([BIII)I" } : Jvm.MethodName)) ∈ gw := gw_9 7 rfl rfl
theorem wr_9_9 : (Jvm.Cond.code ({ cls := "java/lang/StringLatin1", name := "indexOfChar", desc := "([BIII)I" } : Jvm.MethodName) prog_37_method_23_code (6 : Nat) (Option.some Jvm.ClassFile.FieldType.int)) ∈ gw := gw_9 9 rfl rfl
theorem wr_9_8 : (Jvm.Cond.static ({ cls := "java/lang/StringLatin1", name := "indexOfChar", desc := "([BIII)I" } : Jvm.MethodName)) ∈ gw := gw_9 8 rfl rfl
theorem dr_cJ1_indexOf_4cfef_36 : decode cJ1_indexOf_4cfef 36 = .ok (.ireturn, 1) := by decide +kernel
theorem dr_cJ1_indexOf_4cfef_27 : decode cJ1_indexOf_4cfef 27 = .ok (.iconst (-1), 1) := by decide +kernel
theorem dr_cJ1_indexOf_4cfef_28 : decode cJ1_indexOf_4cfef 28 = .ok (.ireturn, 1) := by decide +kernel
theorem dr_cJ0_indexOf_7cf53_0 : decode cJ0_indexOf_7cf53 0 = .ok (.aload_n 0, 1) := by decide +kernel
theorem dr_cJ0_indexOf_7cf53_1 : decode cJ0_indexOf_7cf53 1 = .ok (.invokevirtual 492, 3) := by decide +kernel
theorem dr_cJ0_indexOf_7cf53_4 : decode cJ0_indexOf_7cf53 4 = .ok (.ifCond .eq 19, 3) := by decide +kernel
theorem dr_cJ0_indexOf_7cf53_7 : decode cJ0_indexOf_7cf53 7 = .ok (.aload_n 0, 1) := by decide +kernel
theorem dr_cJ0_indexOf_7cf53_8 : decode cJ0_indexOf_7cf53 8 = .ok (.getfield 9, 3) := by decide +kernel
theorem dr_cJ0_indexOf_7cf53_11 : decode cJ0_indexOf_7cf53 11 = .ok (.iload_n 1, 1) := by decide +kernel
theorem dr_cJ0_indexOf_7cf53_12 : decode cJ0_indexOf_7cf53 12 = .ok (.iload_n 2, 1) := by decide +kernel
theorem dr_cJ0_indexOf_7cf53_13 : decode cJ0_indexOf_7cf53 13 = .ok (.aload_n 0, 1) := by decide +kernel
theorem dr_cJ0_indexOf_7cf53_14 : decode cJ0_indexOf_7cf53 14 = .ok (.invokevirtual 505, 3) := by decide +kernel
theorem wr_8_238 : (Jvm.Cond.methodLink "java/lang/String" (505 : Nat) ({ cls := "java/lang/String", name := "length", desc := "()I" } : Jvm.MethodName)) ∈ gw := gw_8 238 rfl rfl
theorem dr_cJ0_indexOf_7cf53_17 : decode cJ0_indexOf_7cf53 17 = .ok (.invokestatic 637, 3) := by decide +kernel
theorem wr_8_239 : (Jvm.Cond.methodLink "java/lang/String" (637 : Nat) ({ cls := "java/lang/StringLatin1", name := "indexOf", desc := "([BIII)I" } : Jvm.MethodName)) ∈ gw := gw_8 239 rfl rfl
theorem wr_9_1 : (Jvm.Cond.code ({ cls := "java/lang/StringLatin1", name := "indexOf", desc := "([BIII)I" } : Jvm.MethodName) prog_37_method_22_code (4 : Nat) (Option.some Jvm.ClassFile.FieldType.int)) ∈ gw := gw_9 1 rfl rfl
theorem wr_9_0 : (Jvm.Cond.static ({ cls := "java/lang/StringLatin1", name := "indexOf", desc := "([BIII)I" } : Jvm.MethodName)) ∈ gw := gw_9 0 rfl rfl
theorem dr_cJ0_indexOf_7cf53_20 : decode cJ0_indexOf_7cf53 20 = .ok (.goto 16, 3) := by decide +kernel
theorem dr_cJ0_indexOf_7cf53_36 : decode cJ0_indexOf_7cf53 36 = .ok (.ireturn, 1) := by decide +kernel
theorem dr_cJ0_indexOf_0f7a4_0 : decode cJ0_indexOf_0f7a4 0 = .ok (.aload_n 0, 1) := by decide +kernel
theorem dr_cJ0_indexOf_0f7a4_1 : decode cJ0_indexOf_0f7a4 1 = .ok (.iload_n 1, 1) := by decide +kernel
theorem dr_cJ0_indexOf_0f7a4_2 : decode cJ0_indexOf_0f7a4 2 = .ok (.iconst 0, 1) := by decide +kernel
theorem dr_cJ0_indexOf_0f7a4_3 : decode cJ0_indexOf_0f7a4 3 = .ok (.invokevirtual 633, 3) := by decide +kernel
theorem wr_8_234 : (Jvm.Cond.methodLink "java/lang/String" (633 : Nat) ({ cls := "java/lang/String", name := "indexOf", desc := "(II)I" } : Jvm.MethodName)) ∈ gw := gw_8 234 rfl rfl
theorem wr_8_237 : (Jvm.Cond.code ({ cls := "java/lang/String", name := "indexOf", desc := "(II)I" } : Jvm.MethodName) prog_34_method_80_code (3 : Nat) (Option.some Jvm.ClassFile.FieldType.int)) ∈ gw := gw_8 237 rfl rfl
theorem wr_8_235 : (Jvm.Cond.instanceMethod ({ cls := "java/lang/String", name := "indexOf", desc := "(II)I" } : Jvm.MethodName)) ∈ gw := gw_8 235 rfl rfl
theorem wr_8_236 : (Jvm.Cond.selects "java/lang/String" ({ cls := "java/lang/String", name := "indexOf", desc := "(II)I" } : Jvm.MethodName) ({ cls := "java/lang/String", name := "indexOf", desc := "(II)I" } : Jvm.MethodName)) ∈ gw := gw_8 236 rfl rfl
theorem dr_cJ0_indexOf_0f7a4_6 : decode cJ0_indexOf_0f7a4 6 = .ok (.ireturn, 1) := by decide +kernel
theorem dr_cJ6_stringSize_0f7a4_0 : decode cJ6_stringSize_0f7a4 0 = .ok (.iconst 1, 1) := by decide +kernel
theorem dr_cJ6_stringSize_0f7a4_1 : decode cJ6_stringSize_0f7a4 1 = .ok (.istore_n 1, 1) := by decide +kernel
theorem dr_cJ6_stringSize_0f7a4_2 : decode cJ6_stringSize_0f7a4 2 = .ok (.iload_n 0, 1) := by decide +kernel
theorem dr_cJ6_stringSize_0f7a4_3 : decode cJ6_stringSize_0f7a4 3 = .ok (.ifCond .lt 8, 3) := by decide +kernel
theorem dr_cJ6_stringSize_0f7a4_11 : decode cJ6_stringSize_0f7a4 11 = .ok (.bipush (-10), 2) := by decide +kernel
theorem dr_cJ6_stringSize_0f7a4_13 : decode cJ6_stringSize_0f7a4 13 = .ok (.istore_n 2, 1) := by decide +kernel
theorem dr_cJ6_stringSize_0f7a4_14 : decode cJ6_stringSize_0f7a4 14 = .ok (.iconst 1, 1) := by decide +kernel
theorem dr_cJ6_stringSize_0f7a4_15 : decode cJ6_stringSize_0f7a4 15 = .ok (.istore_n 3, 1) := by decide +kernel
theorem dr_cJ6_stringSize_0f7a4_16 : decode cJ6_stringSize_0f7a4 16 = .ok (.iload_n 3, 1) := by decide +kernel
theorem dr_cJ6_stringSize_0f7a4_17 : decode cJ6_stringSize_0f7a4 17 = .ok (.bipush 10, 2) := by decide +kernel
theorem dr_cJ6_stringSize_0f7a4_19 : decode cJ6_stringSize_0f7a4 19 = .ok (.if_icmp .ge 23, 3) := by decide +kernel
theorem dr_cJ6_stringSize_0f7a4_42 : decode cJ6_stringSize_0f7a4 42 = .ok (.bipush 10, 2) := by decide +kernel
theorem dr_cJ6_stringSize_0f7a4_44 : decode cJ6_stringSize_0f7a4 44 = .ok (.iload_n 1, 1) := by decide +kernel
theorem dr_cJ6_stringSize_0f7a4_45 : decode cJ6_stringSize_0f7a4 45 = .ok (.iadd, 1) := by decide +kernel
theorem dr_cJ6_stringSize_0f7a4_46 : decode cJ6_stringSize_0f7a4 46 = .ok (.ireturn, 1) := by decide +kernel
theorem dr_cJ6_stringSize_0f7a4_22 : decode cJ6_stringSize_0f7a4 22 = .ok (.iload_n 0, 1) := by decide +kernel
theorem dr_cJ6_stringSize_0f7a4_23 : decode cJ6_stringSize_0f7a4 23 = .ok (.iload_n 2, 1) := by decide +kernel
theorem dr_cJ6_stringSize_0f7a4_24 : decode cJ6_stringSize_0f7a4 24 = .ok (.if_icmp .le 7, 3) := by decide +kernel
theorem dr_cJ6_stringSize_0f7a4_31 : decode cJ6_stringSize_0f7a4 31 = .ok (.bipush 10, 2) := by decide +kernel
theorem dr_cJ6_stringSize_0f7a4_33 : decode cJ6_stringSize_0f7a4 33 = .ok (.iload_n 2, 1) := by decide +kernel
theorem dr_cJ6_stringSize_0f7a4_34 : decode cJ6_stringSize_0f7a4 34 = .ok (.imul, 1) := by decide +kernel
theorem dr_cJ6_stringSize_0f7a4_35 : decode cJ6_stringSize_0f7a4 35 = .ok (.istore_n 2, 1) := by decide +kernel
theorem dr_cJ6_stringSize_0f7a4_36 : decode cJ6_stringSize_0f7a4 36 = .ok (.iinc 3 1, 3) := by decide +kernel
theorem dr_cJ6_stringSize_0f7a4_39 : decode cJ6_stringSize_0f7a4 39 = .ok (.goto (-23), 3) := by decide +kernel
theorem dr_cJ6_stringSize_0f7a4_27 : decode cJ6_stringSize_0f7a4 27 = .ok (.iload_n 3, 1) := by decide +kernel
theorem dr_cJ6_stringSize_0f7a4_28 : decode cJ6_stringSize_0f7a4 28 = .ok (.iload_n 1, 1) := by decide +kernel
theorem dr_cJ6_stringSize_0f7a4_29 : decode cJ6_stringSize_0f7a4 29 = .ok (.iadd, 1) := by decide +kernel
theorem dr_cJ6_stringSize_0f7a4_30 : decode cJ6_stringSize_0f7a4 30 = .ok (.ireturn, 1) := by decide +kernel
theorem dr_cJ6_stringSize_0f7a4_6 : decode cJ6_stringSize_0f7a4 6 = .ok (.iconst 0, 1) := by decide +kernel
theorem dr_cJ6_stringSize_0f7a4_7 : decode cJ6_stringSize_0f7a4 7 = .ok (.istore_n 1, 1) := by decide +kernel
theorem dr_cJ6_stringSize_0f7a4_8 : decode cJ6_stringSize_0f7a4 8 = .ok (.iload_n 0, 1) := by decide +kernel
theorem dr_cJ6_stringSize_0f7a4_9 : decode cJ6_stringSize_0f7a4 9 = .ok (.ineg, 1) := by decide +kernel
theorem dr_cJ6_stringSize_0f7a4_10 : decode cJ6_stringSize_0f7a4 10 = .ok (.istore_n 0, 1) := by decide +kernel
abbrev ky_657469_StringLatin1_indexOf : gKey := (cJ1_indexOf_b82b6, 2, "java/lang/StringLatin1", (some FieldType.int), [], "indexOf", fun _ _ => True)
def pp_657469_StringLatin1_indexOf (D : va_G) (I : FieldType → ClassId) (P657460 : List Nat) (F657461 : Nat → va_E) (q657462 : Nat) (qs657463 : Nat) (bs657464 : List Int32) (f657465 : Nat → Int32) (n657466 : Nat) : Option Value → va_W → Nat → Nat → Prop := fun r w dc ds => ∃ (o664502 : Int32), r = some (.int o664502) ∧ w = va_pl P657460 F657461 ∧ dc ≤ 0 ∧ ds ≤ 0 ∧ gB o664502 (-2147483646) 16777215 ∧ (o664502.toInt < 0 ∨ o664502.toInt + (n657466 : Int) ≤ (bs657464.length : Int)) ∧ ixP (fun j => bs657464.getD j 0) f657465 o664502 ∧ tr_RStringLatin1_indexOf bs657464 f657465 n657466 o664502
set_option maxRecDepth 100000 in
set_option maxHeartbeats 4000000 in
theorem cp_657469_StringLatin1_indexOf (l : Launch) (hl0 : l.stackTraces = false) (D : va_G) (I : FieldType → ClassId) (P657460 : List Nat) (F657461 : Nat → va_E) (q657462 : Nat) (qs657463 : Nat) (bs657464 : List Int32) (f657465 : Nat → Int32) (n657466 : Nat) (hmq657462 : q657462 ∈ P657460) (heq657462 : F657461 q657462 = .inl (I .byte, n657466, .inl f657465)) (hbs657464 : ∀ A s H, (gV D I).2.2.2.1 A s H → va_T .byte qs657463 bs657464.length (fun j => .int (bs657464.getD j 0)) A s H) (nbs657464 : (bs657464.length : Int) ≤ 65535) (lbs657464 : gLB bs657464) (bf657465 : gF f657465 (-128) 127) (x657467 : 1 ≤ (n657466 : Int)) (x657468 : ((n657466 : Int) ≤ 16777216)) : CtA (gV D I) l yJ1_indexOf_b82b6 cJ1_indexOf_b82b6 2 (some FieldType.int) 1 30 0 0 [.ref qs657463, .ref q657462] (va_pl P657460 F657461) (pp_657469_StringLatin1_indexOf D I P657460 F657461 q657462 qs657463 bs657464 f657465 n657466) gNA := by
  refine CtA_ofF hl0 (by decide +kernel) (Nat.le_of_ble_eq_true rfl) ?_
  refine G_aload_n 1 dr_cJ1_indexOf_b82b6_0 rfl ?_
  refine Gp_alen (Int32.ofNat n657466) 1 hmq657462 heq657462 dr_cJ1_indexOf_b82b6_1 rfl rfl (G_nam fun z657470 hz657470 => ?_)
  have ez657470 : z657470.toInt = (n657466 : Nat) := gI_ofM hz657470 (by omega)
  have bz657470 : gB z657470 0 16777216 := ⟨by omega, by omega⟩
  refine G_if_ne 7 dr_cJ1_indexOf_b82b6_2 (by decide +kernel) (fun hc657471 => ?_) (fun hc => absurd (show False by have := gj_eq hc (show Int32.toInt 0 = 0 by decide); omega) not_false)
  have r657473 : z657470.toInt ≠ 0 := gj_neq hc657471 (show Int32.toInt 0 = 0 by decide)
  have bz657470' : gB z657470 1 16777216 := ⟨by omega, by omega⟩
  refine G_aload_n 0 dr_cJ1_indexOf_b82b6_7 rfl ?_
  refine G_klen dr_cJ1_indexOf_b82b6_8 hbs657464 (G_nam fun z657474 hz657474 => ?_)
  have ez657474 : z657474.toInt = (bs657464.length : Int) := gI_ofN hz657474 nbs657464
  have bz657474 : gB z657474 0 65535 := ⟨by omega, by omega⟩
  refine G_if_ne 14 dr_cJ1_indexOf_b82b6_9 (by decide +kernel) (fun hc657475 => ?_) (fun hc657475 => ?_)
  · have r657476 : z657474.toInt ≠ 0 := gj_neq hc657475 (show Int32.toInt 0 = 0 by decide)
    have bz657474' : gB z657474 1 65535 := ⟨by omega, by omega⟩
    refine G_aload_n 0 dr_cJ1_indexOf_b82b6_14 rfl ?_
    refine G_aload_n 0 dr_cJ1_indexOf_b82b6_15 rfl ?_
    refine G_klen dr_cJ1_indexOf_b82b6_16 hbs657464 (G_nam fun z657477 hz657477 => ?_)
    have ez657477 : z657477.toInt = (bs657464.length : Int) := gI_ofN hz657477 nbs657464
    have bz657477 : gB z657477 0 65535 := ⟨by omega, by omega⟩
    refine G_aload_n 1 dr_cJ1_indexOf_b82b6_17 rfl ?_
    refine G_aload_n 1 dr_cJ1_indexOf_b82b6_18 rfl ?_
    refine Gp_alen (Int32.ofNat n657466) 1 hmq657462 heq657462 dr_cJ1_indexOf_b82b6_19 rfl rfl (G_nam fun z657478 hz657478 => ?_)
    have ez657478 : z657478.toInt = (n657466 : Nat) := gI_ofM hz657478 (by omega)
    have bz657478 : gB z657478 0 16777216 := ⟨by omega, by omega⟩
    refine G_iconst 0 dr_cJ1_indexOf_b82b6_20 (by decide +kernel) ?_
    refine Gw_callS (As := [.ref qs657463, .int z657477, .ref q657462, .int z657478, .int 0]) (gV_ok D I) (cp_657491_StringLatin1_indexOf l hl0 D I P657460 F657461 q657462 qs657463 bs657464 z657477 z657478 f657465 n657466 hmq657462 heq657462 hbs657464 nbs657464 lbs657464 (gB_w bz657477 (by decide) (by decide)) ⟨by omega, by omega⟩ bf657465 (by omega) (by omega) (by omega)) dr_cJ1_indexOf_b82b6_21 ⟨wr_8_203, wr_1_28, wr_8_205, by decide, rfl, (Nat.le_of_ble_eq_true rfl), (Nat.le_of_ble_eq_true rfl)⟩ wr_8_204 (show 0 + 0 ≤ 0 by first | omega | decide) (show 0 + 0 ≤ 0 by first | omega | decide) (Nat.le_of_ble_eq_true rfl) (fun r664495 w664496 dc664492 ds664493 hp664494 => ?_) (fun _ _ _ _ _ z => z.elim)
    obtain ⟨o664497, rfl, rfl, hdc, hds, bo664497, x664498, x664499, ht664500⟩ := hp664494
    change G _ _ _ _ _ _ _ (.int o664497 :: _) _ _ _
    refine G_widen (cs' := 0) (sl' := 0) (by omega) (by omega) ?_
    exact G_iretA dr_cJ1_indexOf_b82b6_24 rfl (Nat.le_of_ble_eq_true rfl) (Nat.le_of_ble_eq_true rfl) ⟨o664497, rfl, rfl, (Nat.le_of_ble_eq_true rfl), (Nat.le_of_ble_eq_true rfl), bo664497, (by omega), x664499, (fun R c1 c2 => c1 z657470 z657474 z657477 z657478 o664497 ez657470 r657473 ez657474 r657476 ez657477 ez657478 bo664497 ht664500)⟩
  · have r664501 : z657474.toInt = 0 := gj_eq hc657475 (show Int32.toInt 0 = 0 by decide)
    have bz657474' : gB z657474 0 0 := ⟨by omega, by omega⟩
    refine G_iconst (-1) dr_cJ1_indexOf_b82b6_12 (by decide +kernel) ?_
    exact G_iretA dr_cJ1_indexOf_b82b6_13 rfl (Nat.le_of_ble_eq_true rfl) (Nat.le_of_ble_eq_true rfl) ⟨(-1), rfl, rfl, (Nat.le_of_ble_eq_true rfl), (Nat.le_of_ble_eq_true rfl), (gB_w (gBl (show Int32.toInt (-1) = (-1) by decide)) (by decide) (by decide)), (by have qa0 : Int32.toInt (-1) = (-1) := (by decide); omega), (ixP_n (by decide)), (fun R c1 c2 => c2 z657470 z657474 ez657470 r657473 ez657474 r664501)⟩
/- tr_RString_indexOf: result -/
def tr_RString_indexOf (bs : List Int32) (a1_value_v : Nat → Int32) (a1_value_n : Nat) (o1 : Int32) : Prop := ∀ R : (Int32) → Prop,
  (∀ (x1 : Int32), gB x1 (-2147483646) 16777215 → tr_RStringLatin1_indexOf bs a1_value_v a1_value_n x1 → R x1) →
  R o1
abbrev ky_657444_String_indexOf : gKey := (cJ0_indexOf_2f485, 3, "java/lang/String", (some FieldType.int), [], "indexOf", fun _ _ => True)
def pp_657444_String_indexOf (D : va_G) (I : FieldType → ClassId) (P657431 : List Nat) (F657432 : Nat → va_E) (q657433 : Nat) (q657434 : Nat) (qs657435 : Nat) (qb657436 : Nat) (bs657437 : List Int32) (p657438 : Int32) (p657439 : Int32) (f657440 : Nat → Int32) (n657441 : Nat) : Option Value → va_W → Nat → Nat → Prop := fun r w dc ds => ∃ (o664512 : Int32), r = some (.int o664512) ∧ w = va_pl P657431 F657432 ∧ dc ≤ 0 ∧ ds ≤ 0 ∧ gB o664512 (-2147483646) 16777215 ∧ (o664512.toInt < 0 ∨ o664512.toInt + (n657441 : Int) ≤ (bs657437.length : Int)) ∧ ixP (fun j => bs657437.getD j 0) f657440 o664512 ∧ tr_RString_indexOf bs657437 f657440 n657441 o664512
set_option maxRecDepth 100000 in
set_option maxHeartbeats 4000000 in
theorem cp_657444_String_indexOf (l : Launch) (hl0 : l.stackTraces = false) (D : va_G) (I : FieldType → ClassId) (P657431 : List Nat) (F657432 : Nat → va_E) (q657433 : Nat) (q657434 : Nat) (qs657435 : Nat) (qb657436 : Nat) (bs657437 : List Int32) (p657438 : Int32) (p657439 : Int32) (f657440 : Nat → Int32) (n657441 : Nat) (hmq657433 : q657433 ∈ P657431) (hmq657434 : q657434 ∈ P657431) (heq657433 : F657432 q657433 = .inr (0, [.ref q657434, .int 0, .int p657438, .int p657439])) (heq657434 : F657432 q657434 = .inl (I .byte, n657441, .inl f657440)) (hbs657437 : ∀ A s H, (gV D I).2.2.2.1 A s H → gSC qs657435 qb657436 bs657437 A s H) (nbs657437 : (bs657437.length : Int) ≤ 65535) (lbs657437 : gLB bs657437) (bp657439 : gB p657439 0 1) (bf657440 : gF f657440 (-128) 127) (x657442 : 1 ≤ (n657441 : Int)) (x657443 : ((n657441 : Int) ≤ 16777216)) : CtA (gV D I) l yJ0_indexOf_2f485 cJ0_indexOf_2f485 3 (some FieldType.int) 2 51 0 0 [.ref qs657435, .ref q657433] (va_pl P657431 F657432) (pp_657444_String_indexOf D I P657431 F657432 q657433 q657434 qs657435 qb657436 bs657437 p657438 p657439 f657440 n657441) gNA := by
  refine CtA_ofF hl0 (by decide +kernel) (Nat.le_of_ble_eq_true rfl) ?_
  have bp657438 := gB_any p657438
  refine G_aload_n 0 dr_cJ0_indexOf_2f485_0 rfl ?_
  refine Gw_callVk (As := []) (gV_ok D I) (cp_656539_String_coder l hl0 D I P657431 F657432 qs657435 qb657436 bs657437 hbs657437 nbs657437 lbs657437) dr_cJ0_indexOf_2f485_1 ⟨wr_3_61, wr_1_21, wr_3_64, by decide, rfl, (Nat.le_of_ble_eq_true rfl), (Nat.le_of_ble_eq_true rfl)⟩ wr_3_62 wr_3_63 (fun _ _ _ h => (hbs657437 _ _ _ h).1) (show 0 + 0 ≤ 0 by first | omega | decide) (show 0 + 0 ≤ 0 by first | omega | decide) (Nat.le_of_ble_eq_true rfl) (fun r657448 w657449 dc657445 ds657446 hp657447 => ?_) (fun _ _ _ _ _ z => z.elim)
  obtain ⟨rfl, rfl, hdc, hds⟩ := hp657447
  change G _ _ _ _ _ _ _ (.int 0 :: _) _ _ _
  refine G_widen (cs' := 0) (sl' := 0) (by omega) (by omega) ?_
  refine G_istore_n (L' := [(2, .int 0), (0, .ref qs657435), (1, .ref q657433)]) dr_cJ0_indexOf_2f485_4 (Nat.le_of_ble_eq_true rfl) rfl ?_
  refine G_iload_n 0 dr_cJ0_indexOf_2f485_5 rfl ?_
  refine G_aload_n 2 dr_cJ0_indexOf_2f485_6 rfl ?_
  refine Gw_callV (As := []) (gV_ok D I) (cp_656323_String_coder l hl0 D I P657431 F657432 q657433 q657434 p657438 p657439 f657440 n657441 hmq657433 hmq657434 heq657433 heq657434 bp657439 bf657440 (by have qa0 : Int32.toInt 0 = 0 := (by decide); omega)) dr_cJ0_indexOf_2f485_7 ⟨wr_3_61, wr_1_21, wr_3_64, by decide, rfl, (Nat.le_of_ble_eq_true rfl), (Nat.le_of_ble_eq_true rfl)⟩ wr_3_62 wr_3_63 hmq657433 heq657433 rfl (show 0 + 0 ≤ 0 by first | omega | decide) (show 0 + 0 ≤ 0 by first | omega | decide) (Nat.le_of_ble_eq_true rfl) (fun r657453 w657454 dc657450 ds657451 hp657452 => ?_) (fun _ _ _ _ _ z => z.elim)
  obtain ⟨rfl, rfl, hdc, hds⟩ := hp657452
  change G _ _ _ _ _ _ _ (.int 0 :: _) _ _ _
  refine G_widen (cs' := 0) (sl' := 0) (by omega) (by omega) ?_
  refine G_icmp_ne 46 dr_cJ0_indexOf_2f485_10 (by decide +kernel) (fun hc => absurd hc (by decide)) (fun _ => ?_)
  refine G_aload_n 1 dr_cJ0_indexOf_2f485_13 rfl ?_
  refine Gw_callVk (As := []) (gV_ok D I) (cp_657399_String_isLatin1 l hl0 D I P657431 F657432 qs657435 qb657436 bs657437 hbs657437 nbs657437 lbs657437) dr_cJ0_indexOf_2f485_14 ⟨wr_3_71, wr_1_21, wr_3_74, by decide, rfl, (Nat.le_of_ble_eq_true rfl), (Nat.le_of_ble_eq_true rfl)⟩ wr_3_72 wr_3_73 (fun _ _ _ h => (hbs657437 _ _ _ h).1) (show 0 + 0 ≤ 0 by first | omega | decide) (show 0 + 0 ≤ 0 by first | omega | decide) (Nat.le_of_ble_eq_true rfl) (fun r657458 w657459 dc657455 ds657456 hp657457 => ?_) (fun _ _ _ _ _ z => z.elim)
  obtain ⟨rfl, rfl, hdc, hds⟩ := hp657457
  change G _ _ _ _ _ _ _ (.int 1 :: _) _ _ _
  refine G_widen (cs' := 0) (sl' := 0) (by omega) (by omega) ?_
  refine G_if_eq 34 dr_cJ0_indexOf_2f485_17 (by decide +kernel) (fun hc => absurd hc (by decide)) (fun _ => ?_)
  refine G_aload_n 1 dr_cJ0_indexOf_2f485_20 rfl ?_
  refine G_kget dr_cJ0_indexOf_2f485_21 wr_8_182 (fun _ _ _ h => (hbs657437 _ _ _ h).2.2.1) ?_
  refine G_aload_n 2 dr_cJ0_indexOf_2f485_24 rfl ?_
  refine Gp_get 0 hmq657433 heq657433 dr_cJ0_indexOf_2f485_25 (gk_J0 D I) (Nat.le_of_ble_eq_true rfl) wr_8_182 rfl ?_
  refine Gw_callS (As := [.ref qb657436, .ref q657434]) (gV_ok D I) (cp_657469_StringLatin1_indexOf l hl0 D I P657431 F657432 q657434 qb657436 bs657437 f657440 n657441 hmq657434 heq657434 (fun _ _ _ h => (hbs657437 _ _ _ h).2.2.2) (by omega) lbs657437 bf657440 (by have qa0 : Int32.toInt 0 = 0 := (by decide); omega) (by have qa0 : Int32.toInt 0 = 0 := (by decide); omega)) dr_cJ0_indexOf_2f485_28 ⟨wr_8_200, wr_1_28, wr_8_202, by decide, rfl, (Nat.le_of_ble_eq_true rfl), (Nat.le_of_ble_eq_true rfl)⟩ wr_8_201 (show 0 + 0 ≤ 0 by first | omega | decide) (show 0 + 0 ≤ 0 by first | omega | decide) (Nat.le_of_ble_eq_true rfl) (fun r664506 w664507 dc664503 ds664504 hp664505 => ?_) (fun _ _ _ _ _ z => z.elim)
  obtain ⟨o664508, rfl, rfl, hdc, hds, bo664508, x664509, x664510, ht664511⟩ := hp664505
  change G _ _ _ _ _ _ _ (.int o664508 :: _) _ _ _
  refine G_widen (cs' := 0) (sl' := 0) (by omega) (by omega) ?_
  refine G_goto 45 dr_cJ0_indexOf_2f485_31 (by decide +kernel) ?_
  exact G_iretA dr_cJ0_indexOf_2f485_45 rfl (Nat.le_of_ble_eq_true rfl) (Nat.le_of_ble_eq_true rfl) ⟨o664508, rfl, rfl, (Nat.le_of_ble_eq_true rfl), (Nat.le_of_ble_eq_true rfl), bo664508, (by have qa0 : Int32.toInt 0 = 0 := (by decide); omega), x664510, (fun R c1 => c1 o664508 bo664508 ht664511)⟩
/- tr_RStringLatin1_canEncode2: result -/
def tr_RStringLatin1_canEncode2 (a0 : Int32) (o1 : Int32) : Prop := ∀ R : (Int32) → Prop,
  (a0.toInt < 0 → R (0 : Int32)) →
  (0 ≤ a0.toInt → 255 < a0.toInt → R (0 : Int32)) →
  (0 ≤ a0.toInt → a0.toInt ≤ 255 → R (1 : Int32)) →
  R o1
abbrev ky_664553_StringLatin1_canEncode : gKey := (cJ1_canEncode_9a6ad, 1, "java/lang/StringLatin1", (some FieldType.boolean), [], "canEncode", fun _ _ => True)
def pp_664553_StringLatin1_canEncode (D : va_G) (I : FieldType → ClassId) (P664550 : List Nat) (F664551 : Nat → va_E) (p664552 : Int32) : Option Value → va_W → Nat → Nat → Prop := fun r w dc ds => (r = some (.int 0) ∧ w = va_pl P664550 F664551 ∧ dc ≤ 0 ∧ ds ≤ 0 ∧ p664552.toInt < 0 ∧ tr_RStringLatin1_canEncode2 p664552 (0 : Int32)) ∨ (r = some (.int 0) ∧ w = va_pl P664550 F664551 ∧ dc ≤ 0 ∧ ds ≤ 0 ∧ 0 ≤ p664552.toInt ∧ 255 < p664552.toInt ∧ tr_RStringLatin1_canEncode2 p664552 (0 : Int32)) ∨ (r = some (.int 1) ∧ w = va_pl P664550 F664551 ∧ dc ≤ 0 ∧ ds ≤ 0 ∧ 0 ≤ p664552.toInt ∧ p664552.toInt ≤ 255 ∧ tr_RStringLatin1_canEncode2 p664552 (1 : Int32))
set_option maxRecDepth 100000 in
set_option maxHeartbeats 4000000 in
theorem cp_664553_StringLatin1_canEncode (l : Launch) (hl0 : l.stackTraces = false) (D : va_G) (I : FieldType → ClassId) (P664550 : List Nat) (F664551 : Nat → va_E) (p664552 : Int32)  : CtA (gV D I) l yJ1_canEncode_9a6ad cJ1_canEncode_9a6ad 1 (some FieldType.boolean) 0 0 0 0 [.int p664552] (va_pl P664550 F664551) (pp_664553_StringLatin1_canEncode D I P664550 F664551 p664552) gNA := by
  refine CtA_ofF hl0 (by decide +kernel) (Nat.le_of_ble_eq_true rfl) ?_
  have bp664552 := gB_any p664552
  refine G_iload_n 0 dr_cJ1_canEncode_9a6ad_0 rfl ?_
  refine G_if_lt 15 dr_cJ1_canEncode_9a6ad_1 (by decide +kernel) (fun hc664554 => ?_) (fun hc664554 => ?_)
  · have r664555 : p664552.toInt < 0 := gj_lt hc664554 (show Int32.toInt 0 = 0 by decide)
    have bp664552' : gB p664552 (-2147483648) (-1) := ⟨by omega, by omega⟩
    refine G_iconst 0 dr_cJ1_canEncode_9a6ad_15 (by decide +kernel) ?_
    exact G_zretA FieldType.boolean dr_cJ1_canEncode_9a6ad_16 rfl rfl (Nat.le_of_ble_eq_true rfl) (Nat.le_of_ble_eq_true rfl) (Or.inl ⟨rfl, rfl, (Nat.le_of_ble_eq_true rfl), (Nat.le_of_ble_eq_true rfl), r664555, (fun R c1 c2 c3 => c1 r664555)⟩)
  · have r664556 : 0 ≤ p664552.toInt := gj_nlt hc664554 (show Int32.toInt 0 = 0 by decide)
    have bp664552' : gB p664552 0 2147483647 := ⟨by omega, by omega⟩
    refine G_iload_n 0 dr_cJ1_canEncode_9a6ad_4 rfl ?_
    refine G_sipush 255 dr_cJ1_canEncode_9a6ad_5 (by decide +kernel) ?_
    refine G_icmp_gt 15 dr_cJ1_canEncode_9a6ad_8 (by decide +kernel) (fun hc664557 => ?_) (fun hc664557 => ?_)
    · have r664558 : 255 < p664552.toInt := gj_ltL hc664557 (show Int32.toInt 255 = 255 by decide)
      have bp664552'' : gB p664552 256 2147483647 := ⟨by omega, by omega⟩
      refine G_iconst 0 dr_cJ1_canEncode_9a6ad_15 (by decide +kernel) ?_
      exact G_zretA FieldType.boolean dr_cJ1_canEncode_9a6ad_16 rfl rfl (Nat.le_of_ble_eq_true rfl) (Nat.le_of_ble_eq_true rfl) (Or.inr (Or.inl ⟨rfl, rfl, (Nat.le_of_ble_eq_true rfl), (Nat.le_of_ble_eq_true rfl), r664556, r664558, (fun R c1 c2 c3 => c2 r664556 r664558)⟩))
    · have r664559 : p664552.toInt ≤ 255 := gj_nltL hc664557 (show Int32.toInt 255 = 255 by decide)
      have bp664552'' : gB p664552 0 255 := ⟨by omega, by omega⟩
      refine G_iconst 1 dr_cJ1_canEncode_9a6ad_11 (by decide +kernel) ?_
      refine G_goto 16 dr_cJ1_canEncode_9a6ad_12 (by decide +kernel) ?_
      exact G_zretA FieldType.boolean dr_cJ1_canEncode_9a6ad_16 rfl rfl (Nat.le_of_ble_eq_true rfl) (Nat.le_of_ble_eq_true rfl) (Or.inr (Or.inr (⟨rfl, rfl, (Nat.le_of_ble_eq_true rfl), (Nat.le_of_ble_eq_true rfl), r664556, r664559, (fun R c1 c2 c3 => c3 r664556 r664559)⟩)))
/- tl_RStringLatin1_indexOfChar_7: l5; out: l5 -/
def tl_RStringLatin1_indexOfChar_7 (a3 : Int32) (bs : List Int32) (c1 : Int32) (s1 : Int32) (k : Nat) (e1 : Int32) : Prop := ∀ R : (Int32) → Nat → (Int32) → Prop,
  (∀ (l5_1 : Int32), gB l5_1 0 65535 → a3.toInt ≤ l5_1.toInt → R l5_1 31 (0 : Int32)) →
  (∀ (l5_1 : Int32) (x1 : Int32) (x2 : Int32) (k : Nat) (e1 : Int32), gB l5_1 0 65535 → l5_1.toInt < a3.toInt → x1 = bs.getD l5_1.toNatClampNeg 0 → x1.toInt ≠ c1.toInt → x2.toInt = l5_1.toInt + 1 → R x2 k e1 → R l5_1 k e1) →
  (∀ (l5_1 : Int32) (x1 : Int32), gB l5_1 0 65535 → l5_1.toInt < a3.toInt → x1 = bs.getD l5_1.toNatClampNeg 0 → x1.toInt = c1.toInt → R l5_1 22 l5_1) →
  R s1 k e1
/- tr_RStringLatin1_indexOfChar: result -/
def tr_RStringLatin1_indexOfChar (bs : List Int32) (a1 : Int32) (a2 : Int32) (a3 : Int32) (o1 : Int32) : Prop := ∀ R : (Int32) → Prop,
  (∀ (x1 : Int32), x1 = a1.toInt8.toInt32 → tl_RStringLatin1_indexOfChar_7 a3 bs x1 a2 31 (0 : Int32) → R (-1 : Int32)) →
  (∀ (x1 : Int32) (x2 : Int32), x1 = a1.toInt8.toInt32 → tl_RStringLatin1_indexOfChar_7 a3 bs x1 a2 22 x2 → R x2) →
  R o1
abbrev ky_664587_StringLatin1_indexOfChar : gKey := (cJ1_indexOfChar_4cfef, 6, "java/lang/StringLatin1", (some FieldType.int), [], "indexOfChar", fun _ _ => True)
def pp_664587_StringLatin1_indexOfChar (D : va_G) (I : FieldType → ClassId) (P664579 : List Nat) (F664580 : Nat → va_E) (qs664581 : Nat) (bs664582 : List Int32) (p664583 : Int32) (p664584 : Int32) (p664585 : Int32) : Option Value → va_W → Nat → Nat → Prop := fun r w dc ds => ∃ (o664617 : Int32), r = some (.int o664617) ∧ w = va_pl P664579 F664580 ∧ dc ≤ 0 ∧ ds ≤ 0 ∧ gB o664617 (-1) 65534 ∧ tr_RStringLatin1_indexOfChar bs664582 p664583 p664584 p664585 o664617
set_option maxRecDepth 100000 in
set_option maxHeartbeats 4000000 in
theorem cp_664587_StringLatin1_indexOfChar (l : Launch) (hl0 : l.stackTraces = false) (D : va_G) (I : FieldType → ClassId) (P664579 : List Nat) (F664580 : Nat → va_E) (qs664581 : Nat) (bs664582 : List Int32) (p664583 : Int32) (p664584 : Int32) (p664585 : Int32) (hbs664582 : ∀ A s H, (gV D I).2.2.2.1 A s H → va_T .byte qs664581 bs664582.length (fun j => .int (bs664582.getD j 0)) A s H) (nbs664582 : (bs664582.length : Int) ≤ 65535) (lbs664582 : gLB bs664582) (bp664583 : gB p664583 0 65535) (bp664584 : gB p664584 0 65535) (bp664585 : gB p664585 0 65535) (x664586 : p664585.toInt ≤ (bs664582.length : Int)) : CtA (gV D I) l yJ1_indexOfChar_4cfef cJ1_indexOfChar_4cfef 6 (some FieldType.int) 0 0 0 0 [.ref qs664581, .int p664583, .int p664584, .int p664585] (va_pl P664579 F664580) (pp_664587_StringLatin1_indexOfChar D I P664579 F664580 qs664581 bs664582 p664583 p664584 p664585) gNA := by
  refine CtA_ofF hl0 (by decide +kernel) (Nat.le_of_ble_eq_true rfl) ?_
  refine G_iload_n 1 dr_cJ1_indexOfChar_4cfef_0 rfl ?_
  refine G_i2b dr_cJ1_indexOfChar_4cfef_1 (G_nam fun z664588 hz664588 => ?_)
  have bz664588 : gB z664588 (-128) 127 := gB_i2b hz664588
  refine G_istore (L' := [(4, .int z664588), (0, .ref qs664581), (1, .int p664583), (2, .int p664584), (3, .int p664585)]) dr_cJ1_indexOfChar_4cfef_2 (Nat.le_of_ble_eq_true rfl) rfl ?_
  refine G_iload_n 3 dr_cJ1_indexOfChar_4cfef_4 rfl ?_
  refine G_istore (L' := [(5, .int p664584), (4, .int z664588), (0, .ref qs664581), (1, .int p664583), (2, .int p664584), (3, .int p664585)]) dr_cJ1_indexOfChar_4cfef_5 (Nat.le_of_ble_eq_true rfl) rfl ?_
  have hlp7_664606 : ∀ (n7_664606 : Nat) (g664606 : Int32), gB g664606 0 65535 → (∀ (k : Nat) (e1 : Int32), tl_RStringLatin1_indexOfChar_7 p664585 bs664582 z664588 g664606 k e1 → tl_RStringLatin1_indexOfChar_7 p664585 bs664582 z664588 p664584 k e1) → ((65536 : Int) - g664606.toInt).toNat < n7_664606 → G (gV D I) l (gRm 0 0 0 0) (gMA (gV D I) (pp_664587_StringLatin1_indexOfChar D I P664579 F664580 qs664581 bs664582 p664583 p664584 p664585) gNA 0 0) ky_664587_StringLatin1_indexOfChar 7 [(5, .int g664606), (4, .int z664588), (0, .ref qs664581), (1, .int p664583), (2, .int p664584), (3, .int p664585)] [] (va_pl P664579 F664580) 0 0 := by
    intro n7_664606
    induction n7_664606 with
    | zero => intro g664606 bg664606 kt7_664606 hm7_664606; exact absurd hm7_664606 (Nat.not_lt_zero _)
    | succ n7_664606 ih7_664606 =>
      intro g664606 bg664606 kt7_664606 hm7_664606
      refine G_iload 0 dr_cJ1_indexOfChar_4cfef_7 rfl ?_
      refine G_iload_n 5 dr_cJ1_indexOfChar_4cfef_9 rfl ?_
      refine G_icmp_ge 31 dr_cJ1_indexOfChar_4cfef_10 (by decide +kernel) (fun hc664607 => ?_) (fun hc664607 => ?_)
      · have r664608 : p664585.toInt ≤ g664606.toInt := gC_le hc664607
        have hx664609 : tl_RStringLatin1_indexOfChar_7 p664585 bs664582 z664588 p664584 31 (0 : Int32) := kt7_664606 31 (0 : Int32) (fun R c1 c2 c3 => c1 g664606 bg664606 r664608)
        refine G_iconst (-1) dr_cJ1_indexOfChar_4cfef_31 (by decide +kernel) ?_
        exact G_iretA dr_cJ1_indexOfChar_4cfef_32 rfl (Nat.le_of_ble_eq_true rfl) (Nat.le_of_ble_eq_true rfl) ⟨(-1), rfl, rfl, (Nat.le_of_ble_eq_true rfl), (Nat.le_of_ble_eq_true rfl), (gB_w (gBl (show Int32.toInt (-1) = (-1) by decide)) (by decide) (by decide)), (fun R c1 c2 => c1 z664588 hz664588 hx664609)⟩
      · have r664610 : g664606.toInt < p664585.toInt := gC_nle hc664607
        have bg664606' : gB g664606 0 65534 := ⟨by omega, by omega⟩
        have bp664585' : gB p664585 1 65535 := ⟨by omega, by omega⟩
        refine G_aload_n 2 dr_cJ1_indexOfChar_4cfef_13 rfl ?_
        refine G_iload 0 dr_cJ1_indexOfChar_4cfef_14 rfl ?_
        refine G_kbald (f := fun j => bs664582.getD j 0) dr_cJ1_indexOfChar_4cfef_16 hbs664582 (gB_inr (by omega) (by omega)) (G_nam fun z664611 hz664611 => ?_)
        have bz664611 : gB z664611 (-2147483648) 2147483647 := gB_any z664611
        refine G_iload 1 dr_cJ1_indexOfChar_4cfef_17 rfl ?_
        refine G_icmp_ne 25 dr_cJ1_indexOfChar_4cfef_19 (by decide +kernel) (fun hc664612 => ?_) (fun hc664612 => ?_)
        · have r664613 : z664611.toInt ≠ z664588.toInt := gC_ne hc664612
          obtain ⟨z664614, hz664614⟩ : ∃ z : Int32, z = g664606 + Int32.ofInt 1 := ⟨_, rfl⟩
          have ez664614 : z664614.toInt = g664606.toInt + 1 := gI_inc hz664614 (by decide) bg664606' (by decide) (by decide)
          have bz664614 : gB z664614 1 65535 := ⟨by omega, by omega⟩
          refine G_iinc (L' := [(5, .int z664614), (4, .int z664588), (0, .ref qs664581), (1, .int p664583), (2, .int p664584), (3, .int p664585)]) z664614 0 dr_cJ1_indexOfChar_4cfef_25 rfl hz664614.symm (Nat.le_of_ble_eq_true rfl) rfl ?_
          refine G_goto 7 dr_cJ1_indexOfChar_4cfef_28 (by decide +kernel) ?_
          exact ih7_664606 z664614 (gB_w bz664614 (by decide) (by decide)) (fun k e1 ht => kt7_664606 k e1 (fun R c1 c2 c3 => c2 g664606 z664611 z664614 k e1 bg664606 r664610 hz664611 r664613 ez664614 (ht R c1 c2 c3))) (by omega)
        · have r664615 : z664611.toInt = z664588.toInt := gC_eq hc664612
          have bz664611' : gB z664611 (-128) 127 := ⟨by omega, by omega⟩
          have hx664616 : tl_RStringLatin1_indexOfChar_7 p664585 bs664582 z664588 p664584 22 g664606 := kt7_664606 22 g664606 (fun R c1 c2 c3 => c3 g664606 z664611 bg664606 r664610 hz664611 r664615)
          refine G_iload 0 dr_cJ1_indexOfChar_4cfef_22 rfl ?_
          exact G_iretA dr_cJ1_indexOfChar_4cfef_24 rfl (Nat.le_of_ble_eq_true rfl) (Nat.le_of_ble_eq_true rfl) ⟨g664606, rfl, rfl, (Nat.le_of_ble_eq_true rfl), (Nat.le_of_ble_eq_true rfl), (gB_w bg664606' (by decide) (by decide)), (fun R c1 c2 => c2 z664588 g664606 hz664588 hx664616)⟩
  exact hlp7_664606 (((65536 : Int) - p664584.toInt).toNat + 1) p664584 bp664584 (fun k e1 ht => ht) (Nat.lt_succ_self _)
/- tr_RStringLatin1_indexOf3: result -/
def tr_RStringLatin1_indexOf3 (bs : List Int32) (a1 : Int32) (a2 : Int32) (a3 : Int32) (o1 : Int32) : Prop := ∀ R : (Int32) → Prop,
  (tr_RStringLatin1_canEncode2 a1 (0 : Int32) → R (-1 : Int32)) →
  (∀ (x1 : Int32) (x2 : Int32) (x3 : Int32) (x4 : Int32), tr_RStringLatin1_canEncode2 a1 (1 : Int32) → (a2.toInt ≤ x1.toInt ∧ 0 ≤ x1.toInt ∧ (x1.toInt = a2.toInt ∨ x1.toInt = 0)) → x2.toInt = (bs.length : Int) → (a3.toInt ≥ x3.toInt ∧ x2.toInt ≥ x3.toInt ∧ (x3.toInt = a3.toInt ∨ x3.toInt = x2.toInt)) → x1.toInt < x3.toInt → gB x4 (-1) 65534 → tr_RStringLatin1_indexOfChar bs a1 x1 x3 x4 → R x4) →
  (∀ (x1 : Int32) (x2 : Int32) (x3 : Int32), tr_RStringLatin1_canEncode2 a1 (1 : Int32) → (a2.toInt ≤ x1.toInt ∧ 0 ≤ x1.toInt ∧ (x1.toInt = a2.toInt ∨ x1.toInt = 0)) → x2.toInt = (bs.length : Int) → (a3.toInt ≥ x3.toInt ∧ x2.toInt ≥ x3.toInt ∧ (x3.toInt = a3.toInt ∨ x3.toInt = x2.toInt)) → x3.toInt ≤ x1.toInt → R (-1 : Int32)) →
  R o1
abbrev ky_664549_StringLatin1_indexOf : gKey := (cJ1_indexOf_4cfef, 4, "java/lang/StringLatin1", (some FieldType.int), [], "indexOf", fun _ _ => True)
def pp_664549_StringLatin1_indexOf (D : va_G) (I : FieldType → ClassId) (P664541 : List Nat) (F664542 : Nat → va_E) (qs664543 : Nat) (bs664544 : List Int32) (p664545 : Int32) (p664546 : Int32) (p664547 : Int32) : Option Value → va_W → Nat → Nat → Prop := fun r w dc ds => ∃ (o664626 : Int32), r = some (.int o664626) ∧ w = va_pl P664541 F664542 ∧ dc ≤ 0 ∧ ds ≤ 0 ∧ gB o664626 (-1) 65534 ∧ tr_RStringLatin1_indexOf3 bs664544 p664545 p664546 p664547 o664626
set_option maxRecDepth 100000 in
set_option maxHeartbeats 4000000 in
theorem cp_664549_StringLatin1_indexOf (l : Launch) (hl0 : l.stackTraces = false) (D : va_G) (I : FieldType → ClassId) (P664541 : List Nat) (F664542 : Nat → va_E) (qs664543 : Nat) (bs664544 : List Int32) (p664545 : Int32) (p664546 : Int32) (p664547 : Int32) (hbs664544 : ∀ A s H, (gV D I).2.2.2.1 A s H → va_T .byte qs664543 bs664544.length (fun j => .int (bs664544.getD j 0)) A s H) (nbs664544 : (bs664544.length : Int) ≤ 65535) (lbs664544 : gLB bs664544) (bp664545 : gB p664545 0 65535) (bp664546 : gB p664546 0 1) (bp664547 : gB p664547 0 65535) (x664548 : p664547.toInt = (bs664544.length : Int)) : CtA (gV D I) l yJ1_indexOf_4cfef cJ1_indexOf_4cfef 4 (some FieldType.int) 1 25 0 0 [.ref qs664543, .int p664545, .int p664546, .int p664547] (va_pl P664541 F664542) (pp_664549_StringLatin1_indexOf D I P664541 F664542 qs664543 bs664544 p664545 p664546 p664547) gNA := by
  refine CtA_ofF hl0 (by decide +kernel) (Nat.le_of_ble_eq_true rfl) ?_
  refine G_iload_n 1 dr_cJ1_indexOf_4cfef_0 rfl ?_
  refine Gw_callS (As := [.int p664545]) (gV_ok D I) (cp_664553_StringLatin1_canEncode l hl0 D I P664541 F664542 p664545 ) dr_cJ1_indexOf_4cfef_1 ⟨wr_9_2, wr_1_28, wr_9_4, by decide, rfl, (Nat.le_of_ble_eq_true rfl), (Nat.le_of_ble_eq_true rfl)⟩ wr_9_3 (show 0 + 0 ≤ 0 by first | omega | decide) (show 0 + 0 ≤ 0 by first | omega | decide) (Nat.le_of_ble_eq_true rfl) (fun r664563 w664564 dc664560 ds664561 hp664562 => ?_) (fun _ _ _ _ _ z => z.elim)
  rcases hp664562 with ⟨rfl, rfl, hdc, hds, r664565, r664566⟩ | ⟨rfl, rfl, hdc, hds, r664567, r664568, r664569⟩ | ⟨rfl, rfl, hdc, hds, r664570, r664571, r664572⟩
  · exact absurd (show False by omega) not_false
  · have bp664545' : gB p664545 256 65535 := ⟨by omega, by omega⟩
    change G _ _ _ _ _ _ _ (.int 0 :: _) _ _ _
    refine G_widen (cs' := 0) (sl' := 0) (by omega) (by omega) ?_
    refine G_if_ne 9 dr_cJ1_indexOf_4cfef_4 (by decide +kernel) (fun hc => absurd hc (by decide)) (fun _ => ?_)
    refine G_iconst (-1) dr_cJ1_indexOf_4cfef_7 (by decide +kernel) ?_
    exact G_iretA dr_cJ1_indexOf_4cfef_8 rfl (Nat.le_of_ble_eq_true rfl) (Nat.le_of_ble_eq_true rfl) ⟨(-1), rfl, rfl, (Nat.le_of_ble_eq_true rfl), (Nat.le_of_ble_eq_true rfl), (gB_w (gBl (show Int32.toInt (-1) = (-1) by decide)) (by decide) (by decide)), (fun R c1 c2 c3 => c1 r664569)⟩
  · have bp664545' : gB p664545 0 255 := ⟨by omega, by omega⟩
    change G _ _ _ _ _ _ _ (.int 1 :: _) _ _ _
    refine G_widen (cs' := 0) (sl' := 0) (by omega) (by omega) ?_
    refine G_if_ne 9 dr_cJ1_indexOf_4cfef_4 (by decide +kernel) (fun _ => ?_) (fun hc => absurd hc (by decide))
    refine G_iload_n 2 dr_cJ1_indexOf_4cfef_9 rfl ?_
    refine G_iconst 0 dr_cJ1_indexOf_4cfef_10 (by decide +kernel) ?_
    refine G_mmax dr_cJ1_indexOf_4cfef_11 wr_9_5 wr_1_140 wr_1_6 wr_1_141 (Nat.le_of_ble_eq_true rfl) (Nat.le_of_ble_eq_true rfl) (show 0 ≤ 0 by first | omega | decide) (show 0 ≤ 0 by first | omega | decide) (G_nam fun z664574 hz664574 => ?_)
    have ez664574 : p664546.toInt ≤ z664574.toInt ∧ 0 ≤ z664574.toInt ∧ (z664574.toInt = p664546.toInt ∨ z664574.toInt = 0) := by have := gI_max hz664574; rw [show Int32.toInt 0 = 0 from by decide] at this; omega
    have bz664574 : gB z664574 0 1 := ⟨by omega, by omega⟩
    refine G_istore_n (L' := [(2, .int z664574), (0, .ref qs664543), (1, .int p664545), (3, .int p664547)]) dr_cJ1_indexOf_4cfef_14 (Nat.le_of_ble_eq_true rfl) rfl ?_
    refine G_iload_n 3 dr_cJ1_indexOf_4cfef_15 rfl ?_
    refine G_aload_n 1 dr_cJ1_indexOf_4cfef_16 rfl ?_
    refine G_klen dr_cJ1_indexOf_4cfef_17 hbs664544 (G_nam fun z664575 hz664575 => ?_)
    have ez664575 : z664575.toInt = (bs664544.length : Int) := gI_ofN hz664575 nbs664544
    have bz664575 : gB z664575 0 65535 := ⟨by omega, by omega⟩
    refine G_mmin dr_cJ1_indexOf_4cfef_18 wr_9_6 wr_3_227 wr_1_6 wr_3_228 (Nat.le_of_ble_eq_true rfl) (Nat.le_of_ble_eq_true rfl) (show 0 ≤ 0 by first | omega | decide) (show 0 ≤ 0 by first | omega | decide) (G_nam fun z664576 hz664576 => ?_)
    have ez664576 : p664547.toInt ≥ z664576.toInt ∧ z664575.toInt ≥ z664576.toInt ∧ (z664576.toInt = p664547.toInt ∨ z664576.toInt = z664575.toInt) := by have := gI_min hz664576; omega
    have bz664576 : gB z664576 0 65535 := ⟨by omega, by omega⟩
    refine G_istore_n (L' := [(3, .int z664576), (2, .int z664574), (0, .ref qs664543), (1, .int p664545)]) dr_cJ1_indexOf_4cfef_21 (Nat.le_of_ble_eq_true rfl) rfl ?_
    refine G_iload_n 1 dr_cJ1_indexOf_4cfef_22 rfl ?_
    refine G_iload_n 0 dr_cJ1_indexOf_4cfef_23 rfl ?_
    refine G_icmp_lt 29 dr_cJ1_indexOf_4cfef_24 (by decide +kernel) (fun hc664577 => ?_) (fun hc664577 => ?_)
    · have r664578 : z664574.toInt < z664576.toInt := gC_lt hc664577
      have bz664576' : gB z664576 1 65535 := ⟨by omega, by omega⟩
      refine G_aload_n 2 dr_cJ1_indexOf_4cfef_29 rfl ?_
      refine G_iload_n 3 dr_cJ1_indexOf_4cfef_30 rfl ?_
      refine G_iload_n 1 dr_cJ1_indexOf_4cfef_31 rfl ?_
      refine G_iload_n 0 dr_cJ1_indexOf_4cfef_32 rfl ?_
      refine Gw_callS (As := [.ref qs664543, .int p664545, .int z664574, .int z664576]) (gV_ok D I) (cp_664587_StringLatin1_indexOfChar l hl0 D I P664541 F664542 qs664543 bs664544 p664545 z664574 z664576 hbs664544 nbs664544 lbs664544 (gB_w bp664545' (by decide) (by decide)) (gB_w bz664574 (by decide) (by decide)) (gB_w bz664576' (by decide) (by decide)) (by omega)) dr_cJ1_indexOf_4cfef_33 ⟨wr_9_7, wr_1_28, wr_9_9, by decide, rfl, (Nat.le_of_ble_eq_true rfl), (Nat.le_of_ble_eq_true rfl)⟩ wr_9_8 (show 0 + 0 ≤ 0 by first | omega | decide) (show 0 + 0 ≤ 0 by first | omega | decide) (Nat.le_of_ble_eq_true rfl) (fun r664621 w664622 dc664618 ds664619 hp664620 => ?_) (fun _ _ _ _ _ z => z.elim)
      obtain ⟨o664623, rfl, rfl, hdc, hds, bo664623, ht664624⟩ := hp664620
      change G _ _ _ _ _ _ _ (.int o664623 :: _) _ _ _
      refine G_widen (cs' := 0) (sl' := 0) (by omega) (by omega) ?_
      exact G_iretA dr_cJ1_indexOf_4cfef_36 rfl (Nat.le_of_ble_eq_true rfl) (Nat.le_of_ble_eq_true rfl) ⟨o664623, rfl, rfl, (Nat.le_of_ble_eq_true rfl), (Nat.le_of_ble_eq_true rfl), bo664623, (fun R c1 c2 c3 => c2 z664574 z664575 z664576 o664623 r664572 ez664574 ez664575 ez664576 r664578 bo664623 ht664624)⟩
    · have r664625 : z664576.toInt ≤ z664574.toInt := gC_nlt hc664577
      have bz664576' : gB z664576 0 1 := ⟨by omega, by omega⟩
      refine G_iconst (-1) dr_cJ1_indexOf_4cfef_27 (by decide +kernel) ?_
      exact G_iretA dr_cJ1_indexOf_4cfef_28 rfl (Nat.le_of_ble_eq_true rfl) (Nat.le_of_ble_eq_true rfl) ⟨(-1), rfl, rfl, (Nat.le_of_ble_eq_true rfl), (Nat.le_of_ble_eq_true rfl), (gB_w (gBl (show Int32.toInt (-1) = (-1) by decide)) (by decide) (by decide)), (fun R c1 c2 c3 => c3 z664574 z664575 z664576 r664572 ez664574 ez664575 ez664576 r664625)⟩
/- tr_RString_indexOf3: result -/
def tr_RString_indexOf3 (bs : List Int32) (a1 : Int32) (a2 : Int32) (o1 : Int32) : Prop := ∀ R : (Int32) → Prop,
  (∀ (x1 : Int32) (x2 : Int32), gB x1 0 65535 → tr_RString_length2 bs x1 → gB x2 (-1) 65534 → tr_RStringLatin1_indexOf3 bs a1 a2 x1 x2 → R x2) →
  R o1
abbrev ky_664527_String_indexOf : gKey := (cJ0_indexOf_7cf53, 3, "java/lang/String", (some FieldType.int), [], "indexOf", fun _ _ => True)
def pp_664527_String_indexOf (D : va_G) (I : FieldType → ClassId) (P664520 : List Nat) (F664521 : Nat → va_E) (qs664522 : Nat) (qb664523 : Nat) (bs664524 : List Int32) (p664525 : Int32) (p664526 : Int32) : Option Value → va_W → Nat → Nat → Prop := fun r w dc ds => ∃ (o664634 : Int32), r = some (.int o664634) ∧ w = va_pl P664520 F664521 ∧ dc ≤ 0 ∧ ds ≤ 0 ∧ gB o664634 (-1) 65534 ∧ tr_RString_indexOf3 bs664524 p664525 p664526 o664634
set_option maxRecDepth 100000 in
set_option maxHeartbeats 4000000 in
theorem cp_664527_String_indexOf (l : Launch) (hl0 : l.stackTraces = false) (D : va_G) (I : FieldType → ClassId) (P664520 : List Nat) (F664521 : Nat → va_E) (qs664522 : Nat) (qb664523 : Nat) (bs664524 : List Int32) (p664525 : Int32) (p664526 : Int32) (hbs664524 : ∀ A s H, (gV D I).2.2.2.1 A s H → gSC qs664522 qb664523 bs664524 A s H) (nbs664524 : (bs664524.length : Int) ≤ 65535) (lbs664524 : gLB bs664524) (bp664525 : gB p664525 0 65535) (bp664526 : gB p664526 0 1) : CtA (gV D I) l yJ0_indexOf_7cf53 cJ0_indexOf_7cf53 3 (some FieldType.int) 2 48 0 0 [.ref qs664522, .int p664525, .int p664526] (va_pl P664520 F664521) (pp_664527_String_indexOf D I P664520 F664521 qs664522 qb664523 bs664524 p664525 p664526) gNA := by
  refine CtA_ofF hl0 (by decide +kernel) (Nat.le_of_ble_eq_true rfl) ?_
  refine G_aload_n 0 dr_cJ0_indexOf_7cf53_0 rfl ?_
  refine Gw_callVk (As := []) (gV_ok D I) (cp_657399_String_isLatin1 l hl0 D I P664520 F664521 qs664522 qb664523 bs664524 hbs664524 nbs664524 lbs664524) dr_cJ0_indexOf_7cf53_1 ⟨wr_3_71, wr_1_21, wr_3_74, by decide, rfl, (Nat.le_of_ble_eq_true rfl), (Nat.le_of_ble_eq_true rfl)⟩ wr_3_72 wr_3_73 (fun _ _ _ h => (hbs664524 _ _ _ h).1) (show 0 + 0 ≤ 0 by first | omega | decide) (show 0 + 0 ≤ 0 by first | omega | decide) (Nat.le_of_ble_eq_true rfl) (fun r664531 w664532 dc664528 ds664529 hp664530 => ?_) (fun _ _ _ _ _ z => z.elim)
  obtain ⟨rfl, rfl, hdc, hds⟩ := hp664530
  change G _ _ _ _ _ _ _ (.int 1 :: _) _ _ _
  refine G_widen (cs' := 0) (sl' := 0) (by omega) (by omega) ?_
  refine G_if_eq 23 dr_cJ0_indexOf_7cf53_4 (by decide +kernel) (fun hc => absurd hc (by decide)) (fun _ => ?_)
  refine G_aload_n 0 dr_cJ0_indexOf_7cf53_7 rfl ?_
  refine G_kget dr_cJ0_indexOf_7cf53_8 wr_8_182 (fun _ _ _ h => (hbs664524 _ _ _ h).2.2.1) ?_
  refine G_iload_n 1 dr_cJ0_indexOf_7cf53_11 rfl ?_
  refine G_iload_n 2 dr_cJ0_indexOf_7cf53_12 rfl ?_
  refine G_aload_n 0 dr_cJ0_indexOf_7cf53_13 rfl ?_
  refine Gw_callVk (As := []) (gV_ok D I) (cp_656532_String_length l hl0 D I P664520 F664521 qs664522 qb664523 bs664524 hbs664524 nbs664524 lbs664524) dr_cJ0_indexOf_7cf53_14 ⟨wr_8_238, wr_1_21, wr_3_60, by decide, rfl, (Nat.le_of_ble_eq_true rfl), (Nat.le_of_ble_eq_true rfl)⟩ wr_3_58 wr_3_59 (fun _ _ _ h => (hbs664524 _ _ _ h).1) (show 0 + 0 ≤ 0 by first | omega | decide) (show 0 + 0 ≤ 0 by first | omega | decide) (Nat.le_of_ble_eq_true rfl) (fun r664536 w664537 dc664533 ds664534 hp664535 => ?_) (fun _ _ _ _ _ z => z.elim)
  obtain ⟨o664538, rfl, rfl, hdc, hds, bo664538, x664539, ht664540⟩ := hp664535
  change G _ _ _ _ _ _ _ (.int o664538 :: _) _ _ _
  refine G_widen (cs' := 0) (sl' := 0) (by omega) (by omega) ?_
  refine Gw_callS (As := [.ref qb664523, .int p664525, .int p664526, .int o664538]) (gV_ok D I) (cp_664549_StringLatin1_indexOf l hl0 D I P664520 F664521 qb664523 bs664524 p664525 p664526 o664538 (fun _ _ _ h => (hbs664524 _ _ _ h).2.2.2) (by omega) lbs664524 bp664525 bp664526 bo664538 (by omega)) dr_cJ0_indexOf_7cf53_17 ⟨wr_8_239, wr_1_28, wr_9_1, by decide, rfl, (Nat.le_of_ble_eq_true rfl), (Nat.le_of_ble_eq_true rfl)⟩ wr_9_0 (show 0 + 0 ≤ 0 by first | omega | decide) (show 0 + 0 ≤ 0 by first | omega | decide) (Nat.le_of_ble_eq_true rfl) (fun r664630 w664631 dc664627 ds664628 hp664629 => ?_) (fun _ _ _ _ _ z => z.elim)
  obtain ⟨o664632, rfl, rfl, hdc, hds, bo664632, ht664633⟩ := hp664629
  change G _ _ _ _ _ _ _ (.int o664632 :: _) _ _ _
  refine G_widen (cs' := 0) (sl' := 0) (by omega) (by omega) ?_
  refine G_goto 36 dr_cJ0_indexOf_7cf53_20 (by decide +kernel) ?_
  exact G_iretA dr_cJ0_indexOf_7cf53_36 rfl (Nat.le_of_ble_eq_true rfl) (Nat.le_of_ble_eq_true rfl) ⟨o664632, rfl, rfl, (Nat.le_of_ble_eq_true rfl), (Nat.le_of_ble_eq_true rfl), bo664632, (fun R c1 => c1 o664538 o664632 bo664538 ht664540 bo664632 ht664633)⟩
/- tr_RString_indexOf2: result -/
def tr_RString_indexOf2 (bs : List Int32) (a1 : Int32) (o1 : Int32) : Prop := ∀ R : (Int32) → Prop,
  (∀ (x1 : Int32), gB x1 (-1) 65534 → tr_RString_indexOf3 bs a1 (0 : Int32) x1 → R x1) →
  R o1
abbrev ky_664519_String_indexOf : gKey := (cJ0_indexOf_0f7a4, 2, "java/lang/String", (some FieldType.int), [], "indexOf", fun _ _ => True)
def pp_664519_String_indexOf (D : va_G) (I : FieldType → ClassId) (P664513 : List Nat) (F664514 : Nat → va_E) (qs664515 : Nat) (qb664516 : Nat) (bs664517 : List Int32) (p664518 : Int32) : Option Value → va_W → Nat → Nat → Prop := fun r w dc ds => ∃ (o664642 : Int32), r = some (.int o664642) ∧ w = va_pl P664513 F664514 ∧ dc ≤ 0 ∧ ds ≤ 0 ∧ gB o664642 (-1) 65534 ∧ tr_RString_indexOf2 bs664517 p664518 o664642
set_option maxRecDepth 100000 in
set_option maxHeartbeats 4000000 in
theorem cp_664519_String_indexOf (l : Launch) (hl0 : l.stackTraces = false) (D : va_G) (I : FieldType → ClassId) (P664513 : List Nat) (F664514 : Nat → va_E) (qs664515 : Nat) (qb664516 : Nat) (bs664517 : List Int32) (p664518 : Int32) (hbs664517 : ∀ A s H, (gV D I).2.2.2.1 A s H → gSC qs664515 qb664516 bs664517 A s H) (nbs664517 : (bs664517.length : Int) ≤ 65535) (lbs664517 : gLB bs664517) (bp664518 : gB p664518 0 65535) : CtA (gV D I) l yJ0_indexOf_0f7a4 cJ0_indexOf_0f7a4 2 (some FieldType.int) 3 70 0 0 [.ref qs664515, .int p664518] (va_pl P664513 F664514) (pp_664519_String_indexOf D I P664513 F664514 qs664515 qb664516 bs664517 p664518) gNA := by
  refine CtA_ofF hl0 (by decide +kernel) (Nat.le_of_ble_eq_true rfl) ?_
  refine G_aload_n 0 dr_cJ0_indexOf_0f7a4_0 rfl ?_
  refine G_iload_n 1 dr_cJ0_indexOf_0f7a4_1 rfl ?_
  refine G_iconst 0 dr_cJ0_indexOf_0f7a4_2 (by decide +kernel) ?_
  refine Gw_callVk (As := [.int p664518, .int 0]) (gV_ok D I) (cp_664527_String_indexOf l hl0 D I P664513 F664514 qs664515 qb664516 bs664517 p664518 0 hbs664517 nbs664517 lbs664517 bp664518 (gB_w (gBl (show Int32.toInt 0 = 0 by decide)) (by decide) (by decide))) dr_cJ0_indexOf_0f7a4_3 ⟨wr_8_234, wr_1_21, wr_8_237, by decide, rfl, (Nat.le_of_ble_eq_true rfl), (Nat.le_of_ble_eq_true rfl)⟩ wr_8_235 wr_8_236 (fun _ _ _ h => (hbs664517 _ _ _ h).1) (show 0 + 0 ≤ 0 by first | omega | decide) (show 0 + 0 ≤ 0 by first | omega | decide) (Nat.le_of_ble_eq_true rfl) (fun r664638 w664639 dc664635 ds664636 hp664637 => ?_) (fun _ _ _ _ _ z => z.elim)
  obtain ⟨o664640, rfl, rfl, hdc, hds, bo664640, ht664641⟩ := hp664637
  change G _ _ _ _ _ _ _ (.int o664640 :: _) _ _ _
  refine G_widen (cs' := 0) (sl' := 0) (by omega) (by omega) ?_
  exact G_iretA dr_cJ0_indexOf_0f7a4_6 rfl (Nat.le_of_ble_eq_true rfl) (Nat.le_of_ble_eq_true rfl) ⟨o664640, rfl, rfl, (Nat.le_of_ble_eq_true rfl), (Nat.le_of_ble_eq_true rfl), bo664640, (fun R c1 => c1 o664640 bo664640 ht664641)⟩
/- tl_RInteger_stringSize_16: l3, l2; out: l3 -/
def tl_RInteger_stringSize_16 (a0 : Int32) (s1 : Int32) (s2 : Int32) (k : Nat) (e1 : Int32) : Prop := ∀ R : (Int32) → (Int32) → Nat → (Int32) → Prop,
  (∀ (l3_1 : Int32) (l2_1 : Int32), gB l3_1 1 10 → 10 ≤ l3_1.toInt → R l3_1 l2_1 42 (0 : Int32)) →
  (∀ (l3_1 : Int32) (l2_1 : Int32) (x1 : Int32) (x2 : Int32) (k : Nat) (e1 : Int32), gB l3_1 1 10 → l3_1.toInt < 10 → a0.toInt ≤ l2_1.toInt → x1 = (10 : Int32) * l2_1 → x2.toInt = l3_1.toInt + 1 → R x2 x1 k e1 → R l3_1 l2_1 k e1) →
  (∀ (l3_1 : Int32) (l2_1 : Int32), gB l3_1 1 10 → l3_1.toInt < 10 → l2_1.toInt < a0.toInt → R l3_1 l2_1 27 l3_1) →
  R s1 s2 k e1
/- tl_RInteger_stringSize_16_2: l3, l2; out: l3 -/
def tl_RInteger_stringSize_16_2 (c1 : Int32) (s1 : Int32) (s2 : Int32) (k : Nat) (e1 : Int32) : Prop := ∀ R : (Int32) → (Int32) → Nat → (Int32) → Prop,
  (∀ (l3_1 : Int32) (l2_1 : Int32), gB l3_1 1 10 → 10 ≤ l3_1.toInt → R l3_1 l2_1 42 (0 : Int32)) →
  (∀ (l3_1 : Int32) (l2_1 : Int32) (x1 : Int32) (x2 : Int32) (k : Nat) (e1 : Int32), gB l3_1 1 10 → l3_1.toInt < 10 → c1.toInt ≤ l2_1.toInt → x1 = (10 : Int32) * l2_1 → x2.toInt = l3_1.toInt + 1 → R x2 x1 k e1 → R l3_1 l2_1 k e1) →
  (∀ (l3_1 : Int32) (l2_1 : Int32), gB l3_1 1 10 → l3_1.toInt < 10 → l2_1.toInt < c1.toInt → R l3_1 l2_1 27 l3_1) →
  R s1 s2 k e1
/- tr_RInteger_stringSize: result -/
def tr_RInteger_stringSize (a0 : Int32) (o1 : Int32) : Prop := ∀ R : (Int32) → Prop,
  (a0.toInt < 0 → tl_RInteger_stringSize_16 a0 (1 : Int32) (-10 : Int32) 42 (0 : Int32) → R (11 : Int32)) →
  (∀ (x1 : Int32) (x2 : Int32), a0.toInt < 0 → tl_RInteger_stringSize_16 a0 (1 : Int32) (-10 : Int32) 27 x1 → x2.toInt = x1.toInt + 1 → R x2) →
  (∀ (x1 : Int32), 0 ≤ a0.toInt → x1 = -a0 → tl_RInteger_stringSize_16_2 x1 (1 : Int32) (-10 : Int32) 42 (0 : Int32) → R (10 : Int32)) →
  (∀ (x1 : Int32) (x2 : Int32) (x3 : Int32), 0 ≤ a0.toInt → x1 = -a0 → tl_RInteger_stringSize_16_2 x1 (1 : Int32) (-10 : Int32) 27 x2 → x3.toInt = x2.toInt + 0 → R x3) →
  R o1
abbrev ky_664672_Integer_stringSize : gKey := (cJ6_stringSize_0f7a4, 4, "java/lang/Integer", (some FieldType.int), [], "stringSize", fun _ _ => True)
def pp_664672_Integer_stringSize (D : va_G) (I : FieldType → ClassId) (P664669 : List Nat) (F664670 : Nat → va_E) (p664671 : Int32) : Option Value → va_W → Nat → Nat → Prop := fun r w dc ds => ∃ (o664803 : Int32), r = some (.int o664803) ∧ w = va_pl P664669 F664670 ∧ dc ≤ 0 ∧ ds ≤ 0 ∧ gB o664803 1 11 ∧ dgS p664671.toInt o664803.toInt ∧ tr_RInteger_stringSize p664671 o664803
set_option maxRecDepth 100000 in
set_option maxHeartbeats 4000000 in
theorem cp_664672_Integer_stringSize (l : Launch) (hl0 : l.stackTraces = false) (D : va_G) (I : FieldType → ClassId) (P664669 : List Nat) (F664670 : Nat → va_E) (p664671 : Int32)  : CtA (gV D I) l yJ6_stringSize_0f7a4 cJ6_stringSize_0f7a4 4 (some FieldType.int) 0 0 0 0 [.int p664671] (va_pl P664669 F664670) (pp_664672_Integer_stringSize D I P664669 F664670 p664671) gNA := by
  refine CtA_ofF hl0 (by decide +kernel) (Nat.le_of_ble_eq_true rfl) ?_
  have bp664671 := gB_any p664671
  refine G_iconst 1 dr_cJ6_stringSize_0f7a4_0 (by decide +kernel) ?_
  refine G_istore_n (L' := [(1, .int 1), (0, .int p664671)]) dr_cJ6_stringSize_0f7a4_1 (Nat.le_of_ble_eq_true rfl) rfl ?_
  refine G_iload_n 1 dr_cJ6_stringSize_0f7a4_2 rfl ?_
  refine G_if_lt 11 dr_cJ6_stringSize_0f7a4_3 (by decide +kernel) (fun hc664673 => ?_) (fun hc664673 => ?_)
  · have r664674 : p664671.toInt < 0 := gj_lt hc664673 (show Int32.toInt 0 = 0 by decide)
    have bp664671' : gB p664671 (-2147483648) (-1) := ⟨by omega, by omega⟩
    refine G_bipush (-10) dr_cJ6_stringSize_0f7a4_11 (by decide +kernel) ?_
    refine G_istore_n (L' := [(2, .int (-10)), (1, .int 1), (0, .int p664671)]) dr_cJ6_stringSize_0f7a4_13 (Nat.le_of_ble_eq_true rfl) rfl ?_
    refine G_iconst 1 dr_cJ6_stringSize_0f7a4_14 (by decide +kernel) ?_
    refine G_istore_n (L' := [(3, .int 1), (2, .int (-10)), (1, .int 1), (0, .int p664671)]) dr_cJ6_stringSize_0f7a4_15 (Nat.le_of_ble_eq_true rfl) rfl ?_
    have hlp16_664726 : ∀ (n16_664726 : Nat) (g664724 : Int32) (g664725 : Int32), gB g664724 1 10 → ssI g664724 g664725 → (∀ (k : Nat) (e1 : Int32), tl_RInteger_stringSize_16 p664671 g664724 g664725 k e1 → tl_RInteger_stringSize_16 p664671 (1 : Int32) (-10 : Int32) k e1) → ((11 : Int) - g664724.toInt).toNat < n16_664726 → G (gV D I) l (gRm 0 0 0 0) (gMA (gV D I) (pp_664672_Integer_stringSize D I P664669 F664670 p664671) gNA 0 0) ky_664672_Integer_stringSize 16 [(3, .int g664724), (2, .int g664725), (1, .int 1), (0, .int p664671)] [] (va_pl P664669 F664670) 0 0 := by
      intro n16_664726
      induction n16_664726 with
      | zero => intro g664724 g664725 bg664724 x664726 kt16_664726 hm16_664726; exact absurd hm16_664726 (Nat.not_lt_zero _)
      | succ n16_664726 ih16_664726 =>
        intro g664724 g664725 bg664724 x664726 kt16_664726 hm16_664726
        have bg664725 := gB_any g664725
        refine G_iload_n 0 dr_cJ6_stringSize_0f7a4_16 rfl ?_
        refine G_bipush 10 dr_cJ6_stringSize_0f7a4_17 (by decide +kernel) ?_
        refine G_icmp_ge 42 dr_cJ6_stringSize_0f7a4_19 (by decide +kernel) (fun hc664727 => ?_) (fun hc664727 => ?_)
        · have r664728 : 10 ≤ g664724.toInt := gj_leL hc664727 (show Int32.toInt 10 = 10 by decide)
          have bg664724' : gB g664724 10 10 := ⟨by omega, by omega⟩
          have hx664729 : tl_RInteger_stringSize_16 p664671 (1 : Int32) (-10 : Int32) 42 (0 : Int32) := kt16_664726 42 (0 : Int32) (fun R c1 c2 c3 => c1 g664724 g664725 bg664724 r664728)
          refine G_bipush 10 dr_cJ6_stringSize_0f7a4_42 (by decide +kernel) ?_
          refine G_iload_n 2 dr_cJ6_stringSize_0f7a4_44 rfl ?_
          refine G_iadd dr_cJ6_stringSize_0f7a4_45 ?_
          refine G_eqi (y := 11) (by decide) ?_
          exact G_iretA dr_cJ6_stringSize_0f7a4_46 rfl (Nat.le_of_ble_eq_true rfl) (Nat.le_of_ble_eq_true rfl) ⟨11, rfl, rfl, (Nat.le_of_ble_eq_true rfl), (Nat.le_of_ble_eq_true rfl), (gB_w (gBl (show Int32.toInt 11 = 11 by decide)) (by decide) (by decide)), (by have q10 : Int32.toInt 10 = 10 := (by decide); have q11 : Int32.toInt 11 = 11 := (by decide); first | exact dgS_p (x := -p664671.toInt) (by omega) rfl (dgB_up (ssI_r x664726 (by omega) (fun _ => by omega)) (by omega) (by omega)) | exact dgS_n (by omega) (by omega) (ssI_r x664726 (by omega) (fun _ => by omega))), (fun R c1 c2 c3 c4 => c1 r664674 hx664729)⟩
        · have r664730 : g664724.toInt < 10 := gj_nleL hc664727 (show Int32.toInt 10 = 10 by decide)
          have bg664724' : gB g664724 1 9 := ⟨by omega, by omega⟩
          refine G_iload_n 3 dr_cJ6_stringSize_0f7a4_22 rfl ?_
          refine G_iload_n 1 dr_cJ6_stringSize_0f7a4_23 rfl ?_
          refine G_icmp_le 31 dr_cJ6_stringSize_0f7a4_24 (by decide +kernel) (fun hc664731 => ?_) (fun hc664731 => ?_)
          · have r664732 : p664671.toInt ≤ g664725.toInt := gC_le hc664731
            refine G_bipush 10 dr_cJ6_stringSize_0f7a4_31 (by decide +kernel) ?_
            refine G_iload_n 1 dr_cJ6_stringSize_0f7a4_33 rfl ?_
            refine G_imul dr_cJ6_stringSize_0f7a4_34 (G_nam fun z664733 hz664733 => ?_)
            have bz664733 : gB z664733 (-2147483648) 2147483647 := gB_any z664733
            refine G_istore_n (L' := [(2, .int z664733), (3, .int g664724), (1, .int 1), (0, .int p664671)]) dr_cJ6_stringSize_0f7a4_35 (Nat.le_of_ble_eq_true rfl) rfl ?_
            obtain ⟨z664734, hz664734⟩ : ∃ z : Int32, z = g664724 + Int32.ofInt 1 := ⟨_, rfl⟩
            have ez664734 : z664734.toInt = g664724.toInt + 1 := gI_inc hz664734 (by decide) bg664724' (by decide) (by decide)
            have bz664734 : gB z664734 2 10 := ⟨by omega, by omega⟩
            refine G_iinc (L' := [(3, .int z664734), (2, .int z664733), (1, .int 1), (0, .int p664671)]) z664734 1 dr_cJ6_stringSize_0f7a4_36 rfl hz664734.symm (Nat.le_of_ble_eq_true rfl) rfl ?_
            refine G_goto 16 dr_cJ6_stringSize_0f7a4_39 (by decide +kernel) ?_
            exact ih16_664726 z664734 z664733 (gB_w bz664734 (by decide) (by decide)) (ssI_st x664726 (by omega) (by omega) hz664733) (fun k e1 ht => kt16_664726 k e1 (fun R c1 c2 c3 => c2 g664724 g664725 z664733 z664734 k e1 bg664724 r664730 r664732 hz664733 ez664734 (ht R c1 c2 c3))) (by have qa0 : Int32.toInt 1 = 1 := (by decide); omega)
          · have r664735 : g664725.toInt < p664671.toInt := gC_nle hc664731
            have bg664725' : gB g664725 (-2147483648) (-2) := ⟨by omega, by omega⟩
            have bp664671'' : gB p664671 (-2147483647) (-1) := ⟨by omega, by omega⟩
            have hx664736 : tl_RInteger_stringSize_16 p664671 (1 : Int32) (-10 : Int32) 27 g664724 := kt16_664726 27 g664724 (fun R c1 c2 c3 => c3 g664724 g664725 bg664724 r664730 r664735)
            refine G_iload_n 0 dr_cJ6_stringSize_0f7a4_27 rfl ?_
            refine G_iload_n 2 dr_cJ6_stringSize_0f7a4_28 rfl ?_
            refine G_iadd dr_cJ6_stringSize_0f7a4_29 (G_nam fun z664737 hz664737 => ?_)
            have ez664737 : z664737.toInt = g664724.toInt + 1 := by rw [gI_add hz664737 bg664724' (gBl (show Int32.toInt 1 = 1 by decide)) (by decide) (by decide), show Int32.toInt 1 = 1 from by decide]
            have bz664737 : gB z664737 2 10 := gB_add (gI_add hz664737 bg664724' (gBl (show Int32.toInt 1 = 1 by decide)) (by decide) (by decide)) bg664724' (gBl (show Int32.toInt 1 = 1 by decide)) (by decide) (by decide)
            exact G_iretA dr_cJ6_stringSize_0f7a4_30 rfl (Nat.le_of_ble_eq_true rfl) (Nat.le_of_ble_eq_true rfl) ⟨z664737, rfl, rfl, (Nat.le_of_ble_eq_true rfl), (Nat.le_of_ble_eq_true rfl), (gB_w bz664737 (by decide) (by decide)), (by have q10 : Int32.toInt 10 = 10 := (by decide); have q11 : Int32.toInt 11 = 11 := (by decide); first | exact dgS_p (x := -p664671.toInt) (by omega) rfl (dgB_up (ssI_r x664726 (by omega) (fun _ => by omega)) (by omega) (by omega)) | exact dgS_n (by omega) (by omega) (ssI_r x664726 (by omega) (fun _ => by omega))), (fun R c1 c2 c3 c4 => c2 g664724 z664737 r664674 hx664736 ez664737)⟩
    exact hlp16_664726 (((11 : Int) - 1).toNat + 1) 1 (-10) (gB_w (gBl (show Int32.toInt 1 = 1 by decide)) (by decide) (by decide)) ssI_0 (fun k e1 ht => ht) (Nat.lt_succ_self _)
  · have r664738 : 0 ≤ p664671.toInt := gj_nlt hc664673 (show Int32.toInt 0 = 0 by decide)
    have bp664671' : gB p664671 0 2147483647 := ⟨by omega, by omega⟩
    refine G_iconst 0 dr_cJ6_stringSize_0f7a4_6 (by decide +kernel) ?_
    refine G_istore_n (L' := [(1, .int 0), (0, .int p664671)]) dr_cJ6_stringSize_0f7a4_7 (Nat.le_of_ble_eq_true rfl) rfl ?_
    refine G_iload_n 1 dr_cJ6_stringSize_0f7a4_8 rfl ?_
    refine G_ineg dr_cJ6_stringSize_0f7a4_9 (G_nam fun z664739 hz664739 => ?_)
    have ez664739 : z664739.toInt = -p664671.toInt := gI_neg hz664739 bp664671' (by decide)
    have bz664739 : gB z664739 (-2147483647) 0 := ⟨by omega, by omega⟩
    refine G_istore_n (L' := [(0, .int z664739), (1, .int 0)]) dr_cJ6_stringSize_0f7a4_10 (Nat.le_of_ble_eq_true rfl) rfl ?_
    refine G_bipush (-10) dr_cJ6_stringSize_0f7a4_11 (by decide +kernel) ?_
    refine G_istore_n (L' := [(2, .int (-10)), (0, .int z664739), (1, .int 0)]) dr_cJ6_stringSize_0f7a4_13 (Nat.le_of_ble_eq_true rfl) rfl ?_
    refine G_iconst 1 dr_cJ6_stringSize_0f7a4_14 (by decide +kernel) ?_
    refine G_istore_n (L' := [(3, .int 1), (2, .int (-10)), (0, .int z664739), (1, .int 0)]) dr_cJ6_stringSize_0f7a4_15 (Nat.le_of_ble_eq_true rfl) rfl ?_
    have hlp16_664791 : ∀ (n16_664791 : Nat) (g664789 : Int32) (g664790 : Int32), gB g664789 1 10 → ssI g664789 g664790 → (∀ (k : Nat) (e1 : Int32), tl_RInteger_stringSize_16_2 z664739 g664789 g664790 k e1 → tl_RInteger_stringSize_16_2 z664739 (1 : Int32) (-10 : Int32) k e1) → ((11 : Int) - g664789.toInt).toNat < n16_664791 → G (gV D I) l (gRm 0 0 0 0) (gMA (gV D I) (pp_664672_Integer_stringSize D I P664669 F664670 p664671) gNA 0 0) ky_664672_Integer_stringSize 16 [(3, .int g664789), (2, .int g664790), (0, .int z664739), (1, .int 0)] [] (va_pl P664669 F664670) 0 0 := by
      intro n16_664791
      induction n16_664791 with
      | zero => intro g664789 g664790 bg664789 x664791 kt16_664791 hm16_664791; exact absurd hm16_664791 (Nat.not_lt_zero _)
      | succ n16_664791 ih16_664791 =>
        intro g664789 g664790 bg664789 x664791 kt16_664791 hm16_664791
        have bg664790 := gB_any g664790
        refine G_iload_n 0 dr_cJ6_stringSize_0f7a4_16 rfl ?_
        refine G_bipush 10 dr_cJ6_stringSize_0f7a4_17 (by decide +kernel) ?_
        refine G_icmp_ge 42 dr_cJ6_stringSize_0f7a4_19 (by decide +kernel) (fun hc664792 => ?_) (fun hc664792 => ?_)
        · have r664793 : 10 ≤ g664789.toInt := gj_leL hc664792 (show Int32.toInt 10 = 10 by decide)
          have bg664789' : gB g664789 10 10 := ⟨by omega, by omega⟩
          have hx664794 : tl_RInteger_stringSize_16_2 z664739 (1 : Int32) (-10 : Int32) 42 (0 : Int32) := kt16_664791 42 (0 : Int32) (fun R c1 c2 c3 => c1 g664789 g664790 bg664789 r664793)
          refine G_bipush 10 dr_cJ6_stringSize_0f7a4_42 (by decide +kernel) ?_
          refine G_iload_n 3 dr_cJ6_stringSize_0f7a4_44 rfl ?_
          refine G_iadd dr_cJ6_stringSize_0f7a4_45 ?_
          refine G_eqi (y := 10) (by decide) ?_
          exact G_iretA dr_cJ6_stringSize_0f7a4_46 rfl (Nat.le_of_ble_eq_true rfl) (Nat.le_of_ble_eq_true rfl) ⟨10, rfl, rfl, (Nat.le_of_ble_eq_true rfl), (Nat.le_of_ble_eq_true rfl), (gB_w (gBl (show Int32.toInt 10 = 10 by decide)) (by decide) (by decide)), (by have q10 : Int32.toInt 10 = 10 := (by decide); have q11 : Int32.toInt 11 = 11 := (by decide); first | exact dgS_p (x := -p664671.toInt) (by omega) rfl (dgB_up (ssI_r x664791 (by omega) (fun _ => by omega)) (by omega) (by omega)) | exact dgS_n (by omega) (by omega) (ssI_r x664791 (by omega) (fun _ => by omega))), (fun R c1 c2 c3 c4 => c3 z664739 r664738 hz664739 hx664794)⟩
        · have r664795 : g664789.toInt < 10 := gj_nleL hc664792 (show Int32.toInt 10 = 10 by decide)
          have bg664789' : gB g664789 1 9 := ⟨by omega, by omega⟩
          refine G_iload_n 2 dr_cJ6_stringSize_0f7a4_22 rfl ?_
          refine G_iload_n 1 dr_cJ6_stringSize_0f7a4_23 rfl ?_
          refine G_icmp_le 31 dr_cJ6_stringSize_0f7a4_24 (by decide +kernel) (fun hc664796 => ?_) (fun hc664796 => ?_)
          · have r664797 : z664739.toInt ≤ g664790.toInt := gC_le hc664796
            have bg664790' : gB g664790 (-2147483647) 2147483647 := ⟨by omega, by omega⟩
            refine G_bipush 10 dr_cJ6_stringSize_0f7a4_31 (by decide +kernel) ?_
            refine G_iload_n 1 dr_cJ6_stringSize_0f7a4_33 rfl ?_
            refine G_imul dr_cJ6_stringSize_0f7a4_34 (G_nam fun z664798 hz664798 => ?_)
            have bz664798 : gB z664798 (-2147483648) 2147483647 := gB_any z664798
            refine G_istore_n (L' := [(2, .int z664798), (3, .int g664789), (0, .int z664739), (1, .int 0)]) dr_cJ6_stringSize_0f7a4_35 (Nat.le_of_ble_eq_true rfl) rfl ?_
            obtain ⟨z664799, hz664799⟩ : ∃ z : Int32, z = g664789 + Int32.ofInt 1 := ⟨_, rfl⟩
            have ez664799 : z664799.toInt = g664789.toInt + 1 := gI_inc hz664799 (by decide) bg664789' (by decide) (by decide)
            have bz664799 : gB z664799 2 10 := ⟨by omega, by omega⟩
            refine G_iinc (L' := [(3, .int z664799), (2, .int z664798), (0, .int z664739), (1, .int 0)]) z664799 1 dr_cJ6_stringSize_0f7a4_36 rfl hz664799.symm (Nat.le_of_ble_eq_true rfl) rfl ?_
            refine G_goto 16 dr_cJ6_stringSize_0f7a4_39 (by decide +kernel) ?_
            exact ih16_664791 z664799 z664798 (gB_w bz664799 (by decide) (by decide)) (ssI_st x664791 (by omega) (by omega) hz664798) (fun k e1 ht => kt16_664791 k e1 (fun R c1 c2 c3 => c2 g664789 g664790 z664798 z664799 k e1 bg664789 r664795 r664797 hz664798 ez664799 (ht R c1 c2 c3))) (by have qa0 : Int32.toInt 0 = 0 := (by decide); omega)
          · have r664800 : g664790.toInt < z664739.toInt := gC_nle hc664796
            have bg664790' : gB g664790 (-2147483648) (-1) := ⟨by omega, by omega⟩
            have hx664801 : tl_RInteger_stringSize_16_2 z664739 (1 : Int32) (-10 : Int32) 27 g664789 := kt16_664791 27 g664789 (fun R c1 c2 c3 => c3 g664789 g664790 bg664789 r664795 r664800)
            refine G_iload_n 0 dr_cJ6_stringSize_0f7a4_27 rfl ?_
            refine G_iload_n 3 dr_cJ6_stringSize_0f7a4_28 rfl ?_
            refine G_iadd dr_cJ6_stringSize_0f7a4_29 (G_nam fun z664802 hz664802 => ?_)
            have ez664802 : z664802.toInt = g664789.toInt + 0 := by rw [gI_add hz664802 bg664789' (gBl (show Int32.toInt 0 = 0 by decide)) (by decide) (by decide), show Int32.toInt 0 = 0 from by decide]
            have bz664802 : gB z664802 1 9 := gB_add (gI_add hz664802 bg664789' (gBl (show Int32.toInt 0 = 0 by decide)) (by decide) (by decide)) bg664789' (gBl (show Int32.toInt 0 = 0 by decide)) (by decide) (by decide)
            exact G_iretA dr_cJ6_stringSize_0f7a4_30 rfl (Nat.le_of_ble_eq_true rfl) (Nat.le_of_ble_eq_true rfl) ⟨z664802, rfl, rfl, (Nat.le_of_ble_eq_true rfl), (Nat.le_of_ble_eq_true rfl), (gB_w bz664802 (by decide) (by decide)), (by have q10 : Int32.toInt 10 = 10 := (by decide); have q11 : Int32.toInt 11 = 11 := (by decide); first | exact dgS_p (x := -p664671.toInt) (by omega) rfl (dgB_up (ssI_r x664791 (by omega) (fun _ => by omega)) (by omega) (by omega)) | exact dgS_n (by omega) (by omega) (ssI_r x664791 (by omega) (fun _ => by omega))), (fun R c1 c2 c3 c4 => c4 z664739 g664789 z664802 r664738 hz664739 hx664801 ez664802)⟩
    exact hlp16_664791 (((11 : Int) - 1).toNat + 1) 1 (-10) (gB_w (gBl (show Int32.toInt 1 = 1 by decide)) (by decide) (by decide)) ssI_0 (fun k e1 ht => ht) (Nat.lt_succ_self _)
/- tl_RInteger_getChars_22: l0, l5, a2_v; out: l0, l5, a2_v -/
def tl_RInteger_getChars_22 (s1 : Int32) (s2 : Int32) (s3 : Nat → Int32) (k : Nat) (e1 : Int32) (e2 : Int32) (e3 : Nat → Int32) : Prop := ∀ R : (Int32) → (Int32) → (Nat → Int32) → Nat → (Int32) → (Int32) → (Nat → Int32) → Prop,
  (∀ (l0_1 : Int32) (l5_1 : Int32) (a2_v_1 : Nat → Int32), gB l0_1 (-2147483647) 0 → gB l5_1 0 16777216 → (-100) < l0_1.toInt → R l0_1 l5_1 a2_v_1 72 l0_1 l5_1 a2_v_1) →
  (∀ (l0_1 : Int32) (l5_1 : Int32) (a2_v_1 : Nat → Int32) (x1 : Int32) (x2 : Int32) (x3 : Int32) (x4 : Int32) (x5 : Int32) (x6 : Nat → Int32) (x7 : Int32) (x8 : Int32) (x9 : Nat → Int32) (k : Nat) (e1 : Int32) (e2 : Int32) (e3 : Nat → Int32), gB l0_1 (-2147483647) 0 → gB l5_1 0 16777216 → l0_1.toInt ≤ (-100) → x1.toInt = -((-l0_1.toInt) / 100) → x2.toInt = x1.toInt * 100 → x3.toInt = x2.toInt - l0_1.toInt → x4.toInt = l5_1.toInt + (-1) → x5 = dg_O x3.toNatClampNeg → x6 = upd a2_v_1 x4.toNatClampNeg (vp_nar .byte x5) → x7.toInt = x4.toInt + (-1) → x8 = dg_T x3.toNatClampNeg → x9 = upd x6 x7.toNatClampNeg (vp_nar .byte x8) → R x1 x7 x9 k e1 e2 e3 → R l0_1 l5_1 a2_v_1 k e1 e2 e3) →
  R s1 s2 s3 k e1 e2 e3
/- tl_RInteger_getChars_22_2: l5, l0, a2_v; out: l5, l0, a2_v -/
def tl_RInteger_getChars_22_2 (s1 : Int32) (s2 : Int32) (s3 : Nat → Int32) (k : Nat) (e1 : Int32) (e2 : Int32) (e3 : Nat → Int32) : Prop := ∀ R : (Int32) → (Int32) → (Nat → Int32) → Nat → (Int32) → (Int32) → (Nat → Int32) → Prop,
  (∀ (l5_1 : Int32) (l0_1 : Int32) (a2_v_1 : Nat → Int32), gB l5_1 0 16777216 → gB l0_1 (-2147483648) (-1) → (-100) < l0_1.toInt → R l5_1 l0_1 a2_v_1 72 l5_1 l0_1 a2_v_1) →
  (∀ (l5_1 : Int32) (l0_1 : Int32) (a2_v_1 : Nat → Int32) (x1 : Int32) (x2 : Int32) (x3 : Int32) (x4 : Int32) (x5 : Int32) (x6 : Nat → Int32) (x7 : Int32) (x8 : Int32) (x9 : Nat → Int32) (k : Nat) (e1 : Int32) (e2 : Int32) (e3 : Nat → Int32), gB l5_1 0 16777216 → gB l0_1 (-2147483648) (-1) → l0_1.toInt ≤ (-100) → x1.toInt = -((-l0_1.toInt) / 100) → x2.toInt = x1.toInt * 100 → x3.toInt = x2.toInt - l0_1.toInt → x4.toInt = l5_1.toInt + (-1) → x5 = dg_O x3.toNatClampNeg → x6 = upd a2_v_1 x4.toNatClampNeg (vp_nar .byte x5) → x7.toInt = x4.toInt + (-1) → x8 = dg_T x3.toNatClampNeg → x9 = upd x6 x7.toNatClampNeg (vp_nar .byte x8) → R x7 x1 x9 k e1 e2 e3 → R l5_1 l0_1 a2_v_1 k e1 e2 e3) →
  R s1 s2 s3 k e1 e2 e3
/- tr_RInteger_getChars: result, a.2.[] -/
def tr_RInteger_getChars (a0 : Int32) (a1 : Int32) (a2_v : Nat → Int32) (o1 : Int32) (o2 : Nat → Int32) : Prop := ∀ R : (Int32) → (Nat → Int32) → Prop,
  (∀ (x1 : Int32) (x2 : Int32) (x3 : Int32) (x4 : Nat → Int32) (x5 : Int32) (x6 : Int32) (x7 : Int32) (x8 : Nat → Int32), 0 ≤ a0.toInt → x1 = -a0 → tl_RInteger_getChars_22 x1 a1 a2_v 72 x2 x3 x4 → x5.toInt = x3.toInt + (-1) → x6 = -x2 → x7 = dg_O x6.toNatClampNeg → x8 = upd x4 x5.toNatClampNeg (vp_nar .byte x7) → (-9) ≤ x2.toInt → R x5 x8) →
  (∀ (x1 : Int32) (x2 : Int32) (x3 : Int32) (x4 : Nat → Int32) (x5 : Int32) (x6 : Int32) (x7 : Int32) (x8 : Nat → Int32) (x9 : Int32) (x10 : Int32) (x11 : Int32) (x12 : Nat → Int32), 0 ≤ a0.toInt → x1 = -a0 → tl_RInteger_getChars_22 x1 a1 a2_v 72 x2 x3 x4 → x5.toInt = x3.toInt + (-1) → x6 = -x2 → x7 = dg_O x6.toNatClampNeg → x8 = upd x4 x5.toNatClampNeg (vp_nar .byte x7) → x2.toInt < (-9) → x9.toInt = x5.toInt + (-1) → x10 = -x2 → x11 = dg_T x10.toNatClampNeg → x12 = upd x8 x9.toNatClampNeg (vp_nar .byte x11) → R x9 x12) →
  (∀ (x1 : Int32) (x2 : Int32) (x3 : Nat → Int32) (x4 : Int32) (x5 : Int32) (x6 : Int32) (x7 : Nat → Int32) (x8 : Int32) (x9 : Nat → Int32), a0.toInt < 0 → tl_RInteger_getChars_22_2 a1 a0 a2_v 72 x1 x2 x3 → x4.toInt = x1.toInt + (-1) → x5 = -x2 → x6 = dg_O x5.toNatClampNeg → x7 = upd x3 x4.toNatClampNeg (vp_nar .byte x6) → (-9) ≤ x2.toInt → x8.toInt = x4.toInt + (-1) → x9 = upd x7 x8.toNatClampNeg (vp_nar .byte 45) → R x8 x9) →
  (∀ (x1 : Int32) (x2 : Int32) (x3 : Nat → Int32) (x4 : Int32) (x5 : Int32) (x6 : Int32) (x7 : Nat → Int32) (x8 : Int32) (x9 : Int32) (x10 : Int32) (x11 : Nat → Int32) (x12 : Int32) (x13 : Nat → Int32), a0.toInt < 0 → tl_RInteger_getChars_22_2 a1 a0 a2_v 72 x1 x2 x3 → x4.toInt = x1.toInt + (-1) → x5 = -x2 → x6 = dg_O x5.toNatClampNeg → x7 = upd x3 x4.toNatClampNeg (vp_nar .byte x6) → x2.toInt < (-9) → x8.toInt = x4.toInt + (-1) → x9 = -x2 → x10 = dg_T x9.toNatClampNeg → x11 = upd x7 x8.toNatClampNeg (vp_nar .byte x10) → x12.toInt = x8.toInt + (-1) → x13 = upd x11 x12.toNatClampNeg (vp_nar .byte 45) → R x12 x13) →
  R o1 o2
