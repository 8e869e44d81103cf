theorem dr_cJ1_indexOf_b82b6_0 : decode cJ1_indexOf_b82b6 0 = .ok (.aload_n 1, 1) := by decide +kernel
theorem dr_cJ1_indexOf_b82b6_1 : decode cJ1_indexOf_b82b6 1 = .ok (.arraylength, 1) := by decide +kernel
theorem dr_cJ1_indexOf_b82b6_2 : decode cJ1_indexOf_b82b6 2 = .ok (.ifCond .ne 5, 3) := by decide +kernel
theorem dr_cJ1_indexOf_b82b6_7 : decode cJ1_indexOf_b82b6 7 = .ok (.aload_n 0, 1) := by decide +kernel
theorem dr_cJ1_indexOf_b82b6_8 : decode cJ1_indexOf_b82b6 8 = .ok (.arraylength, 1) := by decide +kernel
theorem dr_cJ1_indexOf_b82b6_9 : decode cJ1_indexOf_b82b6 9 = .ok (.ifCond .ne 5, 3) := by decide +kernel
theorem dr_cJ1_indexOf_b82b6_14 : decode cJ1_indexOf_b82b6 14 = .ok (.aload_n 0, 1) := by decide +kernel
theorem dr_cJ1_indexOf_b82b6_15 : decode cJ1_indexOf_b82b6 15 = .ok (.aload_n 0, 1) := by decide +kernel
theorem dr_cJ1_indexOf_b82b6_16 : decode cJ1_indexOf_b82b6 16 = .ok (.arraylength, 1) := by decide +kernel
theorem dr_cJ1_indexOf_b82b6_17 : decode cJ1_indexOf_b82b6 17 = .ok (.aload_n 1, 1) := by decide +kernel
theorem dr_cJ1_indexOf_b82b6_18 : decode cJ1_indexOf_b82b6 18 = .ok (.aload_n 1, 1) := by decide +kernel
theorem dr_cJ1_indexOf_b82b6_19 : decode cJ1_indexOf_b82b6 19 = .ok (.arraylength, 1) := by decide +kernel
theorem dr_cJ1_indexOf_b82b6_20 : decode cJ1_indexOf_b82b6 20 = .ok (.iconst 0, 1) := by decide +kernel
theorem dr_cJ1_indexOf_b82b6_21 : decode cJ1_indexOf_b82b6 21 = .ok (.invokestatic 99, 3) := by decide +kernel
theorem wr_8_203 : (Jvm.Cond.methodLink "java/lang/StringLatin1" (99 : Nat) ({ cls := "java/lang/StringLatin1", name := "indexOf", desc := "([BI[BII)I" } : Jvm.MethodName)) ∈ gw := gw_8 203 rfl rfl
theorem wr_8_205 : (Jvm.Cond.code ({ cls := "java/lang/StringLatin1", name := "indexOf", desc := "([BI[BII)I" } : Jvm.MethodName) prog_37_method_25_code (11 : Nat) (Option.some Jvm.ClassFile.FieldType.int)) ∈ gw := gw_8 205 rfl rfl
theorem wr_8_204 : (Jvm.Cond.static ({ cls := "java/lang/StringLatin1", name := "indexOf", desc := "([BI[BII)I" } : Jvm.MethodName)) ∈ gw := gw_8 204 rfl rfl
theorem dr_cJ1_indexOf_b82b6_24 : decode cJ1_indexOf_b82b6 24 = .ok (.ireturn, 1) := by decide +kernel
theorem dr_cJ1_indexOf_b82b6_12 : decode cJ1_indexOf_b82b6 12 = .ok (.iconst (-1), 1) := by decide +kernel
theorem dr_cJ1_indexOf_b82b6_13 : decode cJ1_indexOf_b82b6 13 = .ok (.ireturn, 1) := by decide +kernel
theorem dr_cJ0_indexOf_2f485_0 : decode cJ0_indexOf_2f485 0 = .ok (.aload_n 0, 1) := by decide +kernel
theorem dr_cJ0_indexOf_2f485_1 : decode cJ0_indexOf_2f485 1 = .ok (.invokevirtual 335, 3) := by decide +kernel
theorem dr_cJ0_indexOf_2f485_4 : decode cJ0_indexOf_2f485 4 = .ok (.istore_n 2, 1) := by decide +kernel
theorem dr_cJ0_indexOf_2f485_5 : decode cJ0_indexOf_2f485 5 = .ok (.iload_n 2, 1) := by decide +kernel
theorem dr_cJ0_indexOf_2f485_6 : decode cJ0_indexOf_2f485 6 = .ok (.aload_n 1, 1) := by decide +kernel
theorem dr_cJ0_indexOf_2f485_7 : decode cJ0_indexOf_2f485 7 = .ok (.invokevirtual 335, 3) := by decide +kernel
theorem dr_cJ0_indexOf_2f485_10 : decode cJ0_indexOf_2f485 10 = .ok (.if_icmp .ne 36, 3) := by decide +kernel
theorem dr_cJ0_indexOf_2f485_13 : decode cJ0_indexOf_2f485 13 = .ok (.aload_n 0, 1) := by decide +kernel
theorem dr_cJ0_indexOf_2f485_14 : decode cJ0_indexOf_2f485 14 = .ok (.invokevirtual 492, 3) := by decide +kernel
theorem dr_cJ0_indexOf_2f485_17 : decode cJ0_indexOf_2f485 17 = .ok (.ifCond .eq 17, 3) := by decide +kernel
theorem dr_cJ0_indexOf_2f485_20 : decode cJ0_indexOf_2f485 20 = .ok (.aload_n 0, 1) := by decide +kernel
theorem dr_cJ0_indexOf_2f485_21 : decode cJ0_indexOf_2f485 21 = .ok (.getfield 9, 3) := by decide +kernel
theorem dr_cJ0_indexOf_2f485_24 : decode cJ0_indexOf_2f485 24 = .ok (.aload_n 1, 1) := by decide +kernel
theorem dr_cJ0_indexOf_2f485_25 : decode cJ0_indexOf_2f485 25 = .ok (.getfield 9, 3) := by decide +kernel
theorem dr_cJ0_indexOf_2f485_28 : decode cJ0_indexOf_2f485 28 = .ok (.invokestatic 647, 3) := by decide +kernel
theorem wr_8_200 : (Jvm.Cond.methodLink "java/lang/String" (647 : Nat) ({ cls := "java/lang/StringLatin1", name := "indexOf", desc := "([B[B)I" } : Jvm.MethodName)) ∈ gw := gw_8 200 rfl rfl
theorem wr_8_202 : (Jvm.Cond.code ({ cls := "java/lang/StringLatin1", name := "indexOf", desc := "([B[B)I" } : Jvm.MethodName) prog_37_method_24_code (2 : Nat) (Option.some Jvm.ClassFile.FieldType.int)) ∈ gw := gw_8 202 rfl rfl
theorem wr_8_201 : (Jvm.Cond.static ({ cls := "java/lang/StringLatin1", name := "indexOf", desc := "([B[B)I" } : Jvm.MethodName)) ∈ gw := gw_8 201 rfl rfl
theorem dr_cJ0_indexOf_2f485_31 : decode cJ0_indexOf_2f485 31 = .ok (.goto 14, 3) := by decide +kernel
theorem dr_cJ0_indexOf_2f485_45 : decode cJ0_indexOf_2f485 45 = .ok (.ireturn, 1) := by decide +kernel
theorem dr_cJ1_canEncode_9a6ad_0 : decode cJ1_canEncode_9a6ad 0 = .ok (.iload_n 0, 1) := by decide +kernel
theorem dr_cJ1_canEncode_9a6ad_1 : decode cJ1_canEncode_9a6ad 1 = .ok (.ifCond .lt 14, 3) := by decide +kernel
theorem dr_cJ1_canEncode_9a6ad_15 : decode cJ1_canEncode_9a6ad 15 = .ok (.iconst 0, 1) := by decide +kernel
theorem dr_cJ1_canEncode_9a6ad_16 : decode cJ1_canEncode_9a6ad 16 = .ok (.ireturn, 1) := by decide +kernel
theorem dr_cJ1_canEncode_9a6ad_4 : decode cJ1_canEncode_9a6ad 4 = .ok (.iload_n 0, 1) := by decide +kernel
theorem dr_cJ1_canEncode_9a6ad_5 : decode cJ1_canEncode_9a6ad 5 = .ok (.sipush 255, 3) := by decide +kernel
theorem dr_cJ1_canEncode_9a6ad_8 : decode cJ1_canEncode_9a6ad 8 = .ok (.if_icmp .gt 7, 3) := by decide +kernel
theorem dr_cJ1_canEncode_9a6ad_11 : decode cJ1_canEncode_9a6ad 11 = .ok (.iconst 1, 1) := by decide +kernel
theorem dr_cJ1_canEncode_9a6ad_12 : decode cJ1_canEncode_9a6ad 12 = .ok (.goto 4, 3) := by decide +kernel
theorem dr_cJ1_indexOfChar_4cfef_0 : decode cJ1_indexOfChar_4cfef 0 = .ok (.iload_n 1, 1) := by decide +kernel
theorem dr_cJ1_indexOfChar_4cfef_1 : decode cJ1_indexOfChar_4cfef 1 = .ok (.i2b, 1) := by decide +kernel
theorem dr_cJ1_indexOfChar_4cfef_2 : decode cJ1_indexOfChar_4cfef 2 = .ok (.istore 4, 2) := by decide +kernel
theorem dr_cJ1_indexOfChar_4cfef_4 : decode cJ1_indexOfChar_4cfef 4 = .ok (.iload_n 2, 1) := by decide +kernel
theorem dr_cJ1_indexOfChar_4cfef_5 : decode cJ1_indexOfChar_4cfef 5 = .ok (.istore 5, 2) := by decide +kernel
theorem dr_cJ1_indexOfChar_4cfef_7 : decode cJ1_indexOfChar_4cfef 7 = .ok (.iload 5, 2) := by decide +kernel
theorem dr_cJ1_indexOfChar_4cfef_9 : decode cJ1_indexOfChar_4cfef 9 = .ok (.iload_n 3, 1) := by decide +kernel
theorem dr_cJ1_indexOfChar_4cfef_10 : decode cJ1_indexOfChar_4cfef 10 = .ok (.if_icmp .ge 21, 3) := by decide +kernel
theorem dr_cJ1_indexOfChar_4cfef_31 : decode cJ1_indexOfChar_4cfef 31 = .ok (.iconst (-1), 1) := by decide +kernel
theorem dr_cJ1_indexOfChar_4cfef_32 : decode cJ1_indexOfChar_4cfef 32 = .ok (.ireturn, 1) := by decide +kernel
theorem dr_cJ1_indexOfChar_4cfef_13 : decode cJ1_indexOfChar_4cfef 13 = .ok (.aload_n 0, 1) := by decide +kernel
theorem dr_cJ1_indexOfChar_4cfef_14 : decode cJ1_indexOfChar_4cfef 14 = .ok (.iload 5, 2) := by decide +kernel
theorem dr_cJ1_indexOfChar_4cfef_16 : decode cJ1_indexOfChar_4cfef 16 = .ok (.baload, 1) := by decide +kernel
theorem dr_cJ1_indexOfChar_4cfef_17 : decode cJ1_indexOfChar_4cfef 17 = .ok (.iload 4, 2) := by decide +kernel
theorem dr_cJ1_indexOfChar_4cfef_19 : decode cJ1_indexOfChar_4cfef 19 = .ok (.if_icmp .ne 6, 3) := by decide +kernel
theorem dr_cJ1_indexOfChar_4cfef_25 : decode cJ1_indexOfChar_4cfef 25 = .ok (.iinc 5 1, 3) := by decide +kernel
theorem dr_cJ1_indexOfChar_4cfef_28 : decode cJ1_indexOfChar_4cfef 28 = .ok (.goto (-21), 3) := by decide +kernel
theorem dr_cJ1_indexOfChar_4cfef_22 : decode cJ1_indexOfChar_4cfef 22 = .ok (.iload 5, 2) := by decide +kernel
theorem dr_cJ1_indexOfChar_4cfef_24 : decode cJ1_indexOfChar_4cfef 24 = .ok (.ireturn, 1) := by decide +kernel
theorem dr_cJ1_indexOf_4cfef_0 : decode cJ1_indexOf_4cfef 0 = .ok (.iload_n 1, 1) := by decide +kernel
theorem dr_cJ1_indexOf_4cfef_1 : decode cJ1_indexOf_4cfef 1 = .ok (.invokestatic 88, 3) := by decide +kernel
theorem wr_9_2 : (Jvm.Cond.methodLink "java/lang/StringLatin1" (88 : Nat) ({ cls := "java/lang/StringLatin1", name := "canEncode", desc := "(I)Z" } : Jvm.MethodName)) ∈ gw := gw_9 2 rfl rfl
theorem wr_9_4 : (Jvm.Cond.code ({ cls := "java/lang/StringLatin1", name := "canEncode", desc := "(I)Z" } : Jvm.MethodName) prog_37_method_4_code (1 : Nat) (Option.some Jvm.ClassFile.FieldType.boolean)) ∈ gw := gw_9 4 rfl rfl
theorem wr_9_3 : (Jvm.Cond.static ({ cls := "java/lang/StringLatin1", name := "canEncode", desc := "(I)Z" } : Jvm.MethodName)) ∈ gw := gw_9 3 rfl rfl
theorem dr_cJ1_indexOf_4cfef_4 : decode cJ1_indexOf_4cfef 4 = .ok (.ifCond .ne 5, 3) := by decide +kernel
theorem dr_cJ1_indexOf_4cfef_7 : decode cJ1_indexOf_4cfef 7 = .ok (.iconst (-1), 1) := by decide +kernel
theorem dr_cJ1_indexOf_4cfef_8 : decode cJ1_indexOf_4cfef 8 = .ok (.ireturn, 1) := by decide +kernel
theorem dr_cJ1_indexOf_4cfef_9 : decode cJ1_indexOf_4cfef 9 = .ok (.iload_n 2, 1) := by decide +kernel
theorem dr_cJ1_indexOf_4cfef_10 : decode cJ1_indexOf_4cfef 10 = .ok (.iconst 0, 1) := by decide +kernel
theorem dr_cJ1_indexOf_4cfef_11 : decode cJ1_indexOf_4cfef 11 = .ok (.invokestatic 92, 3) := by decide +kernel
theorem wr_9_5 : (Jvm.Cond.methodLink "java/lang/StringLatin1" (92 : Nat) ({ cls := "java/lang/Math", name := "max", desc := "(II)I" } : Jvm.MethodName)) ∈ gw := gw_9 5 rfl rfl
theorem dr_cJ1_indexOf_4cfef_14 : decode cJ1_indexOf_4cfef 14 = .ok (.istore_n 2, 1) := by decide +kernel
theorem dr_cJ1_indexOf_4cfef_15 : decode cJ1_indexOf_4cfef 15 = .ok (.iload_n 3, 1) := by decide +kernel
theorem dr_cJ1_indexOf_4cfef_16 : decode cJ1_indexOf_4cfef 16 = .ok (.aload_n 0, 1) := by decide +kernel
theorem dr_cJ1_indexOf_4cfef_17 : decode cJ1_indexOf_4cfef 17 = .ok (.arraylength, 1) := by decide +kernel
theorem dr_cJ1_indexOf_4cfef_18 : decode cJ1_indexOf_4cfef 18 = .ok (.invokestatic 38, 3) := by decide +kernel
theorem wr_9_6 : (Jvm.Cond.methodLink "java/lang/StringLatin1" (38 : Nat) ({ cls := "java/lang/Math", name := "min", desc := "(II)I" } : Jvm.MethodName)) ∈ gw := gw_9 6 rfl rfl
theorem dr_cJ1_indexOf_4cfef_21 : decode cJ1_indexOf_4cfef 21 = .ok (.istore_n 3, 1) := by decide +kernel
theorem dr_cJ1_indexOf_4cfef_22 : decode cJ1_indexOf_4cfef 22 = .ok (.iload_n 2, 1) := by decide +kernel
theorem dr_cJ1_indexOf_4cfef_23 : decode cJ1_indexOf_4cfef 23 = .ok (.iload_n 3, 1) := by decide +kernel
theorem dr_cJ1_indexOf_4cfef_24 : decode cJ1_indexOf_4cfef 24 = .ok (.if_icmp .lt 5, 3) := by decide +kernel
theorem dr_cJ1_indexOf_4cfef_29 : decode cJ1_indexOf_4cfef 29 = .ok (.aload_n 0, 1) := by decide +kernel
theorem dr_cJ1_indexOf_4cfef_30 : decode cJ1_indexOf_4cfef 30 = .ok (.iload_n 1, 1) := by decide +kernel
theorem dr_cJ1_indexOf_4cfef_31 : decode cJ1_indexOf_4cfef 31 = .ok (.iload_n 2, 1) := by decide +kernel
theorem dr_cJ1_indexOf_4cfef_32 : decode cJ1_indexOf_4cfef 32 = .ok (.iload_n 3, 1) := by decide +kernel
theorem dr_cJ1_indexOf_4cfef_33 : decode cJ1_indexOf_4cfef 33 = .ok (.invokestatic 95, 3) := by decide +kernel
theorem wr_9_7 : (Jvm.Cond.methodLink "java/lang/StringLatin1" (95 : Nat) ({ cls := "java/lang/StringLatin1", name := "indexOfChar", desc := "([BIII)I" } : Jvm.MethodName)) ∈ gw := gw_9 7 rfl rfl
theorem wr_9_9 : (Jvm.Cond.code ({ cls := "java/lang/StringLatin1", name := "indexOfChar", desc := "([BIII)I" } : Jvm.MethodName) prog_37_method_23_code (6 : Nat) (Option.some Jvm.ClassFile.FieldType.int)) ∈ gw := gw_9 9 rfl rfl
theorem wr_9_8 : (Jvm.Cond.static ({ cls := "java/lang/StringLatin1", name := "indexOfChar", desc := "([BIII)I" } : Jvm.MethodName)) ∈ gw := gw_9 8 rfl rfl
theorem dr_cJ1_indexOf_4cfef_36 : decode cJ1_indexOf_4cfef 36 = .ok (.ireturn, 1) := by decide +kernel
theorem dr_cJ1_indexOf_4cfef_27 : decode cJ1_indexOf_4cfef 27 = .ok (.iconst (-1), 1) := by decide +kernel
theorem dr_cJ1_indexOf_4cfef_28 : decode cJ1_indexOf_4cfef 28 = .ok (.ireturn, 1) := by decide +kernel
theorem dr_cJ0_indexOf_7cf53_0 : decode cJ0_indexOf_7cf53 0 = .ok (.aload_n 0, 1) := by decide +kernel
theorem dr_cJ0_indexOf_7cf53_1 : decode cJ0_indexOf_7cf53 1 = .ok (.invokevirtual 492, 3) := by decide +kernel
theorem dr_cJ0_indexOf_7cf53_4 : decode cJ0_indexOf_7cf53 4 = .ok (.ifCond .eq 19, 3) := by decide +kernel
theorem dr_cJ0_indexOf_7cf53_7 : decode cJ0_indexOf_7cf53 7 = .ok (.aload_n 0, 1) := by decide +kernel
theorem dr_cJ0_indexOf_7cf53_8 : decode cJ0_indexOf_7cf53 8 = .ok (.getfield 9, 3) := by decide +kernel
theorem dr_cJ0_indexOf_7cf53_11 : decode cJ0_indexOf_7cf53 11 = .ok (.iload_n 1, 1) := by decide +kernel
theorem dr_cJ0_indexOf_7cf53_12 : decode cJ0_indexOf_7cf53 12 = .ok (.iload_n 2, 1) := by decide +kernel
theorem dr_cJ0_indexOf_7cf53_13 : decode cJ0_indexOf_7cf53 13 = .ok (.aload_n 0, 1) := by decide +kernel
theorem dr_cJ0_indexOf_7cf53_14 : decode cJ0_indexOf_7cf53 14 = .ok (.invokevirtual 505, 3) := by decide +kernel
theorem wr_8_238 : (Jvm.Cond.methodLink "java/lang/String" (505 : Nat) ({ cls := "java/lang/String", name := "length", desc := "()I" } : Jvm.MethodName)) ∈ gw := gw_8 238 rfl rfl
theorem dr_cJ0_indexOf_7cf53_17 : decode cJ0_indexOf_7cf53 17 = .ok (.invokestatic 637, 3) := by decide +kernel
theorem wr_8_239 : (Jvm.Cond.methodLink "java/lang/String" (637 : Nat) ({ cls := "java/lang/StringLatin1", name := "indexOf", desc := "([BIII)I" } : Jvm.MethodName)) ∈ gw := gw_8 239 rfl rfl
theorem wr_9_1 : (Jvm.Cond.code ({ cls := "java/lang/StringLatin1", name := "indexOf", desc := "([BIII)I" } : Jvm.MethodName) prog_37_method_22_code (4 : Nat) (Option.some Jvm.ClassFile.FieldType.int)) ∈ gw := gw_9 1 rfl rfl
theorem wr_9_0 : (Jvm.Cond.static ({ cls := "java/lang/StringLatin1", name := "indexOf", desc := "([BIII)I" } : Jvm.MethodName)) ∈ gw := gw_9 0 rfl rfl
theorem dr_cJ0_indexOf_7cf53_20 : decode cJ0_indexOf_7cf53 20 = .ok (.goto 16, 3) := by decide +kernel
theorem dr_cJ0_indexOf_7cf53_36 : decode cJ0_indexOf_7cf53 36 = .ok (.ireturn, 1) := by decide +kernel
theorem dr_cJ0_indexOf_0f7a4_0 : decode cJ0_indexOf_0f7a4 0 = .ok (.aload_n 0, 1) := by decide +kernel
theorem dr_cJ0_indexOf_0f7a4_1 : decode cJ0_indexOf_0f7a4 1 = .ok (.iload_n 1, 1) := by decide +kernel
theorem dr_cJ0_indexOf_0f7a4_2 : decode cJ0_indexOf_0f7a4 2 = .ok (.iconst 0, 1) := by decide +kernel
theorem dr_cJ0_indexOf_0f7a4_3 : decode cJ0_indexOf_0f7a4 3 = .ok (.invokevirtual 633, 3) := by decide +kernel
theorem wr_8_234 : (Jvm.Cond.methodLink "java/lang/String" (633 : Nat) ({ cls := "java/lang/String", name := "indexOf", desc := "(II)I" } : Jvm.MethodName)) ∈ gw := gw_8 234 rfl rfl
theorem wr_8_237 : (Jvm.Cond.code ({ cls := "java/lang/String", name := "indexOf", desc := "(II)I" } : Jvm.MethodName) prog_34_method_80_code (3 : Nat) (Option.some Jvm.ClassFile.FieldType.int)) ∈ gw := gw_8 237 rfl rfl
theorem wr_8_235 : (Jvm.Cond.instanceMethod ({ cls := "java/lang/String", name := "indexOf", desc := "(II)I" } : Jvm.MethodName)) ∈ gw := gw_8 235 rfl rfl
theorem wr_8_236 : (Jvm.Cond.selects "java/lang/String" ({ cls := "java/lang/String", name := "indexOf", desc := "(II)I" } : Jvm.MethodName) ({ cls := "java/lang/String", name := "indexOf", desc := "(II)I" } : Jvm.MethodName)) ∈ gw := gw_8 236 rfl rfl
theorem dr_cJ0_indexOf_0f7a4_6 : decode cJ0_indexOf_0f7a4 6 = .ok (.ireturn, 1) := by decide +kernel
theorem dr_cJ6_stringSize_0f7a4_0 : decode cJ6_stringSize_0f7a4 0 = .ok (.iconst 1, 1) := by decide +kernel
theorem dr_cJ6_stringSize_0f7a4_1 : decode cJ6_stringSize_0f7a4 1 = .ok (.istore_n 1, 1) := by decide +kernel
theorem dr_cJ6_stringSize_0f7a4_2 : decode cJ6_stringSize_0f7a4 2 = .ok (.iload_n 0, 1) := by decide +kernel
theorem dr_cJ6_stringSize_0f7a4_3 : decode cJ6_stringSize_0f7a4 3 = .ok (.ifCond .lt 8, 3) := by decide +kernel
theorem dr_cJ6_stringSize_0f7a4_11 : decode cJ6_stringSize_0f7a4 11 = .ok (.bipush (-10), 2) := by decide +kernel
theorem dr_cJ6_stringSize_0f7a4_13 : decode cJ6_stringSize_0f7a4 13 = .ok (.istore_n 2, 1) := by decide +kernel
theorem dr_cJ6_stringSize_0f7a4_14 : decode cJ6_stringSize_0f7a4 14 = .ok (.iconst 1, 1) := by decide +kernel
theorem dr_cJ6_stringSize_0f7a4_15 : decode cJ6_stringSize_0f7a4 15 = .ok (.istore_n 3, 1) := by decide +kernel
theorem dr_cJ6_stringSize_0f7a4_16 : decode cJ6_stringSize_0f7a4 16 = .ok (.iload_n 3, 1) := by decide +kernel
theorem dr_cJ6_stringSize_0f7a4_17 : decode cJ6_stringSize_0f7a4 17 = .ok (.bipush 10, 2) := by decide +kernel
theorem dr_cJ6_stringSize_0f7a4_19 : decode cJ6_stringSize_0f7a4 19 = .ok (.if_icmp .ge 23, 3) := by decide +kernel
theorem dr_cJ6_stringSize_0f7a4_42 : decode cJ6_stringSize_0f7a4 42 = .ok (.bipush 10, 2) := by decide +kernel
theorem dr_cJ6_stringSize_0f7a4_44 : decode cJ6_stringSize_0f7a4 44 = .ok (.iload_n 1, 1) := by decide +kernel
theorem dr_cJ6_stringSize_0f7a4_45 : decode cJ6_stringSize_0f7a4 45 = .ok (.iadd, 1) := by decide +kernel
theorem dr_cJ6_stringSize_0f7a4_46 : decode cJ6_stringSize_0f7a4 46 = .ok (.ireturn, 1) := by decide +kernel
theorem dr_cJ6_stringSize_0f7a4_22 : decode cJ6_stringSize_0f7a4 22 = .ok (.iload_n 0, 1) := by decide +kernel
theorem dr_cJ6_stringSize_0f7a4_23 : decode cJ6_stringSize_0f7a4 23 = .ok (.iload_n 2, 1) := by decide +kernel
theorem dr_cJ6_stringSize_0f7a4_24 : decode cJ6_stringSize_0f7a4 24 = .ok (.if_icmp .le 7, 3) := by decide +kernel
theorem dr_cJ6_stringSize_0f7a4_31 : decode cJ6_stringSize_0f7a4 31 = .ok (.bipush 10, 2) := by decide +kernel
theorem dr_cJ6_stringSize_0f7a4_33 : decode cJ6_stringSize_0f7a4 33 = .ok (.iload_n 2, 1) := by decide +kernel
theorem dr_cJ6_stringSize_0f7a4_34 : decode cJ6_stringSize_0f7a4 34 = .ok (.imul, 1) := by decide +kernel
theorem dr_cJ6_stringSize_0f7a4_35 : decode cJ6_stringSize_0f7a4 35 = .ok (.istore_n 2, 1) := by decide +kernel
theorem dr_cJ6_stringSize_0f7a4_36 : decode cJ6_stringSize_0f7a4 36 = .ok (.iinc 3 1, 3) := by decide +kernel
theorem dr_cJ6_stringSize_0f7a4_39 : decode cJ6_stringSize_0f7a4 39 = .ok (.goto (-23), 3) := by decide +kernel
theorem dr_cJ6_stringSize_0f7a4_27 : decode cJ6_stringSize_0f7a4 27 = .ok (.iload_n 3, 1) := by decide +kernel
theorem dr_cJ6_stringSize_0f7a4_28 : decode cJ6_stringSize_0f7a4 28 = .ok (.iload_n 1, 1) := by decide +kernel
theorem dr_cJ6_stringSize_0f7a4_29 : decode cJ6_stringSize_0f7a4 29 = .ok (.iadd, 1) := by decide +kernel
theorem dr_cJ6_stringSize_0f7a4_30 : decode cJ6_stringSize_0f7a4 30 = .ok (.ireturn, 1) := by decide +kernel
theorem dr_cJ6_stringSize_0f7a4_6 : decode cJ6_stringSize_0f7a4 6 = .ok (.iconst 0, 1) := by decide +kernel
theorem dr_cJ6_stringSize_0f7a4_7 : decode cJ6_stringSize_0f7a4 7 = .ok (.istore_n 1, 1) := by decide +kernel
theorem dr_cJ6_stringSize_0f7a4_8 : decode cJ6_stringSize_0f7a4 8 = .ok (.iload_n 0, 1) := by decide +kernel
theorem dr_cJ6_stringSize_0f7a4_9 : decode cJ6_stringSize_0f7a4 9 = .ok (.ineg, 1) := by decide +kernel
theorem dr_cJ6_stringSize_0f7a4_10 : decode cJ6_stringSize_0f7a4 10 = .ok (.istore_n 0, 1) := by decide +kernel
abbrev ky_657140_StringLatin1_indexOf : gKey := (cJ1_indexOf_b82b6, 2, "java/lang/StringLatin1", (some FieldType.int), [], "indexOf", fun _ _ => True)
def pp_657140_StringLatin1_indexOf (D : va_G) (I : FieldType → ClassId) (P657131 : List Nat) (F657132 : Nat → va_E) (q657133 : Nat) (qs657134 : Nat) (bs657135 : List Int32) (f657136 : Nat → Int32) (n657137 : Nat) : Option Value → va_W → Nat → Nat → Prop := fun r w dc ds => ∃ (o664173 : Int32), r = some (.int o664173) ∧ w = va_pl P657131 F657132 ∧ dc ≤ 0 ∧ ds ≤ 0 ∧ gB o664173 (-2147483646) 16777215 ∧ (o664173.toInt < 0 ∨ o664173.toInt + (n657137 : Int) ≤ (bs657135.length : Int)) ∧ ixP (fun j => bs657135.getD j 0) f657136 o664173 ∧ tr_RStringLatin1_indexOf bs657135 f657136 n657137 o664173
set_option maxRecDepth 100000 in
set_option maxHeartbeats 4000000 in
theorem cp_657140_StringLatin1_indexOf (l : Launch) (hl0 : l.stackTraces = false) (D : va_G) (I : FieldType → ClassId) (P657131 : List Nat) (F657132 : Nat → va_E) (q657133 : Nat) (qs657134 : Nat) (bs657135 : List Int32) (f657136 : Nat → Int32) (n657137 : Nat) (hmq657133 : q657133 ∈ P657131) (heq657133 : F657132 q657133 = .inl (I .byte, n657137, .inl f657136)) (hbs657135 : ∀ A s H, (gV D I).2.2.2.1 A s H → va_T .byte qs657134 bs657135.length (fun j => .int (bs657135.getD j 0)) A s H) (nbs657135 : (bs657135.length : Int) ≤ 65535) (lbs657135 : gLB bs657135) (bf657136 : gF f657136 (-128) 127) (x657138 : 1 ≤ (n657137 : Int)) (x657139 : ((n657137 : Int) ≤ 16777216)) : CtA (gV D I) l yJ1_indexOf_b82b6 cJ1_indexOf_b82b6 2 (some FieldType.int) 1 30 0 0 [.ref qs657134, .ref q657133] (va_pl P657131 F657132) (pp_657140_StringLatin1_indexOf D I P657131 F657132 q657133 qs657134 bs657135 f657136 n657137) gNA := by
  refine CtA_ofF hl0 (by decide +kernel) (Nat.le_of_ble_eq_true rfl) ?_
  refine G_aload_n 1 dr_cJ1_indexOf_b82b6_0 rfl ?_
  refine Gp_alen (Int32.ofNat n657137) 1 hmq657133 heq657133 dr_cJ1_indexOf_b82b6_1 rfl rfl (G_nam fun z657141 hz657141 => ?_)
  have ez657141 : z657141.toInt = (n657137 : Nat) := gI_ofM hz657141 (by omega)
  have bz657141 : gB z657141 0 16777216 := ⟨by omega, by omega⟩
  refine G_if_ne 7 dr_cJ1_indexOf_b82b6_2 (by decide +kernel) (fun hc657142 => ?_) (fun hc => absurd (show False by have := gj_eq hc (show Int32.toInt 0 = 0 by decide); omega) not_false)
  have r657144 : z657141.toInt ≠ 0 := gj_neq hc657142 (show Int32.toInt 0 = 0 by decide)
  have bz657141' : gB z657141 1 16777216 := ⟨by omega, by omega⟩
  refine G_aload_n 0 dr_cJ1_indexOf_b82b6_7 rfl ?_
  refine G_klen dr_cJ1_indexOf_b82b6_8 hbs657135 (G_nam fun z657145 hz657145 => ?_)
  have ez657145 : z657145.toInt = (bs657135.length : Int) := gI_ofN hz657145 nbs657135
  have bz657145 : gB z657145 0 65535 := ⟨by omega, by omega⟩
  refine G_if_ne 14 dr_cJ1_indexOf_b82b6_9 (by decide +kernel) (fun hc657146 => ?_) (fun hc657146 => ?_)
  · have r657147 : z657145.toInt ≠ 0 := gj_neq hc657146 (show Int32.toInt 0 = 0 by decide)
    have bz657145' : gB z657145 1 65535 := ⟨by omega, by omega⟩
    refine G_aload_n 0 dr_cJ1_indexOf_b82b6_14 rfl ?_
    refine G_aload_n 0 dr_cJ1_indexOf_b82b6_15 rfl ?_
    refine G_klen dr_cJ1_indexOf_b82b6_16 hbs657135 (G_nam fun z657148 hz657148 => ?_)
    have ez657148 : z657148.toInt = (bs657135.length : Int) := gI_ofN hz657148 nbs657135
    have bz657148 : gB z657148 0 65535 := ⟨by omega, by omega⟩
    refine G_aload_n 1 dr_cJ1_indexOf_b82b6_17 rfl ?_
    refine G_aload_n 1 dr_cJ1_indexOf_b82b6_18 rfl ?_
    refine Gp_alen (Int32.ofNat n657137) 1 hmq657133 heq657133 dr_cJ1_indexOf_b82b6_19 rfl rfl (G_nam fun z657149 hz657149 => ?_)
    have ez657149 : z657149.toInt = (n657137 : Nat) := gI_ofM hz657149 (by omega)
    have bz657149 : gB z657149 0 16777216 := ⟨by omega, by omega⟩
    refine G_iconst 0 dr_cJ1_indexOf_b82b6_20 (by decide +kernel) ?_
    refine Gw_callS (As := [.ref qs657134, .int z657148, .ref q657133, .int z657149, .int 0]) (gV_ok D I) (cp_657162_StringLatin1_indexOf l hl0 D I P657131 F657132 q657133 qs657134 bs657135 z657148 z657149 f657136 n657137 hmq657133 heq657133 hbs657135 nbs657135 lbs657135 (gB_w bz657148 (by decide) (by decide)) ⟨by omega, by omega⟩ bf657136 (by omega) (by omega) (by omega)) dr_cJ1_indexOf_b82b6_21 ⟨wr_8_203, wr_1_28, wr_8_205, by decide, rfl, (Nat.le_of_ble_eq_true rfl), (Nat.le_of_ble_eq_true rfl)⟩ wr_8_204 (show 0 + 0 ≤ 0 by first | omega | decide) (show 0 + 0 ≤ 0 by first | omega | decide) (Nat.le_of_ble_eq_true rfl) (fun r664166 w664167 dc664163 ds664164 hp664165 => ?_) (fun _ _ _ _ _ z => z.elim)
    obtain ⟨o664168, rfl, rfl, hdc, hds, bo664168, x664169, x664170, ht664171⟩ := hp664165
    change G _ _ _ _ _ _ _ (.int o664168 :: _) _ _ _
    refine G_widen (cs' := 0) (sl' := 0) (by omega) (by omega) ?_
    exact G_iretA dr_cJ1_indexOf_b82b6_24 rfl (Nat.le_of_ble_eq_true rfl) (Nat.le_of_ble_eq_true rfl) ⟨o664168, rfl, rfl, (Nat.le_of_ble_eq_true rfl), (Nat.le_of_ble_eq_true rfl), bo664168, (by omega), x664170, (fun R c1 c2 => c1 z657141 z657145 z657148 z657149 o664168 ez657141 r657144 ez657145 r657147 ez657148 ez657149 bo664168 ht664171)⟩
  · have r664172 : z657145.toInt = 0 := gj_eq hc657146 (show Int32.toInt 0 = 0 by decide)
    have bz657145' : gB z657145 0 0 := ⟨by omega, by omega⟩
    refine G_iconst (-1) dr_cJ1_indexOf_b82b6_12 (by decide +kernel) ?_
    exact G_iretA dr_cJ1_indexOf_b82b6_13 rfl (Nat.le_of_ble_eq_true rfl) (Nat.le_of_ble_eq_true rfl) ⟨(-1), rfl, rfl, (Nat.le_of_ble_eq_true rfl), (Nat.le_of_ble_eq_true rfl), (gB_w (gBl (show Int32.toInt (-1) = (-1) by decide)) (by decide) (by decide)), (by have qa0 : Int32.toInt (-1) = (-1) := (by decide); omega), (ixP_n (by decide)), (fun R c1 c2 => c2 z657141 z657145 ez657141 r657144 ez657145 r664172)⟩
/- tr_RString_indexOf: result -/
def tr_RString_indexOf (bs : List Int32) (a1_value_v : Nat → Int32) (a1_value_n : Nat) (o1 : Int32) : Prop := ∀ R : (Int32) → Prop,
  (∀ (x1 : Int32), gB x1 (-2147483646) 16777215 → tr_RStringLatin1_indexOf bs a1_value_v a1_value_n x1 → R x1) →
  R o1
abbrev ky_657115_String_indexOf : gKey := (cJ0_indexOf_2f485, 3, "java/lang/String", (some FieldType.int), [], "indexOf", fun _ _ => True)
def pp_657115_String_indexOf (D : va_G) (I : FieldType → ClassId) (P657102 : List Nat) (F657103 : Nat → va_E) (q657104 : Nat) (q657105 : Nat) (qs657106 : Nat) (qb657107 : Nat) (bs657108 : List Int32) (p657109 : Int32) (p657110 : Int32) (f657111 : Nat → Int32) (n657112 : Nat) : Option Value → va_W → Nat → Nat → Prop := fun r w dc ds => ∃ (o664183 : Int32), r = some (.int o664183) ∧ w = va_pl P657102 F657103 ∧ dc ≤ 0 ∧ ds ≤ 0 ∧ gB o664183 (-2147483646) 16777215 ∧ (o664183.toInt < 0 ∨ o664183.toInt + (n657112 : Int) ≤ (bs657108.length : Int)) ∧ ixP (fun j => bs657108.getD j 0) f657111 o664183 ∧ tr_RString_indexOf bs657108 f657111 n657112 o664183
set_option maxRecDepth 100000 in
set_option maxHeartbeats 4000000 in
theorem cp_657115_String_indexOf (l : Launch) (hl0 : l.stackTraces = false) (D : va_G) (I : FieldType → ClassId) (P657102 : List Nat) (F657103 : Nat → va_E) (q657104 : Nat) (q657105 : Nat) (qs657106 : Nat) (qb657107 : Nat) (bs657108 : List Int32) (p657109 : Int32) (p657110 : Int32) (f657111 : Nat → Int32) (n657112 : Nat) (hmq657104 : q657104 ∈ P657102) (hmq657105 : q657105 ∈ P657102) (heq657104 : F657103 q657104 = .inr (0, [.ref q657105, .int 0, .int p657109, .int p657110])) (heq657105 : F657103 q657105 = .inl (I .byte, n657112, .inl f657111)) (hbs657108 : ∀ A s H, (gV D I).2.2.2.1 A s H → gSC qs657106 qb657107 bs657108 A s H) (nbs657108 : (bs657108.length : Int) ≤ 65535) (lbs657108 : gLB bs657108) (bp657110 : gB p657110 0 1) (bf657111 : gF f657111 (-128) 127) (x657113 : 1 ≤ (n657112 : Int)) (x657114 : ((n657112 : Int) ≤ 16777216)) : CtA (gV D I) l yJ0_indexOf_2f485 cJ0_indexOf_2f485 3 (some FieldType.int) 2 51 0 0 [.ref qs657106, .ref q657104] (va_pl P657102 F657103) (pp_657115_String_indexOf D I P657102 F657103 q657104 q657105 qs657106 qb657107 bs657108 p657109 p657110 f657111 n657112) gNA := by
  refine CtA_ofF hl0 (by decide +kernel) (Nat.le_of_ble_eq_true rfl) ?_
  have bp657109 := gB_any p657109
  refine G_aload_n 0 dr_cJ0_indexOf_2f485_0 rfl ?_
  refine Gw_callVk (As := []) (gV_ok D I) (cp_656210_String_coder l hl0 D I P657102 F657103 qs657106 qb657107 bs657108 hbs657108 nbs657108 lbs657108) dr_cJ0_indexOf_2f485_1 ⟨wr_3_61, wr_1_21, wr_3_64, by decide, rfl, (Nat.le_of_ble_eq_true rfl), (Nat.le_of_ble_eq_true rfl)⟩ wr_3_62 wr_3_63 (fun _ _ _ h => (hbs657108 _ _ _ h).1) (show 0 + 0 ≤ 0 by first | omega | decide) (show 0 + 0 ≤ 0 by first | omega | decide) (Nat.le_of_ble_eq_true rfl) (fun r657119 w657120 dc657116 ds657117 hp657118 => ?_) (fun _ _ _ _ _ z => z.elim)
  obtain ⟨rfl, rfl, hdc, hds⟩ := hp657118
  change G _ _ _ _ _ _ _ (.int 0 :: _) _ _ _
  refine G_widen (cs' := 0) (sl' := 0) (by omega) (by omega) ?_
  refine G_istore_n (L' := [(2, .int 0), (0, .ref qs657106), (1, .ref q657104)]) dr_cJ0_indexOf_2f485_4 (Nat.le_of_ble_eq_true rfl) rfl ?_
  refine G_iload_n 0 dr_cJ0_indexOf_2f485_5 rfl ?_
  refine G_aload_n 2 dr_cJ0_indexOf_2f485_6 rfl ?_
  refine Gw_callV (As := []) (gV_ok D I) (cp_655994_String_coder l hl0 D I P657102 F657103 q657104 q657105 p657109 p657110 f657111 n657112 hmq657104 hmq657105 heq657104 heq657105 bp657110 bf657111 (by have qa0 : Int32.toInt 0 = 0 := (by decide); omega)) dr_cJ0_indexOf_2f485_7 ⟨wr_3_61, wr_1_21, wr_3_64, by decide, rfl, (Nat.le_of_ble_eq_true rfl), (Nat.le_of_ble_eq_true rfl)⟩ wr_3_62 wr_3_63 hmq657104 heq657104 rfl (show 0 + 0 ≤ 0 by first | omega | decide) (show 0 + 0 ≤ 0 by first | omega | decide) (Nat.le_of_ble_eq_true rfl) (fun r657124 w657125 dc657121 ds657122 hp657123 => ?_) (fun _ _ _ _ _ z => z.elim)
  obtain ⟨rfl, rfl, hdc, hds⟩ := hp657123
  change G _ _ _ _ _ _ _ (.int 0 :: _) _ _ _
  refine G_widen (cs' := 0) (sl' := 0) (by omega) (by omega) ?_
  refine G_icmp_ne 46 dr_cJ0_indexOf_2f485_10 (by decide +kernel) (fun hc => absurd hc (by decide)) (fun _ => ?_)
  refine G_aload_n 1 dr_cJ0_indexOf_2f485_13 rfl ?_
  refine Gw_callVk (As := []) (gV_ok D I) (cp_657070_String_isLatin1 l hl0 D I P657102 F657103 qs657106 qb657107 bs657108 hbs657108 nbs657108 lbs657108) dr_cJ0_indexOf_2f485_14 ⟨wr_3_71, wr_1_21, wr_3_74, by decide, rfl, (Nat.le_of_ble_eq_true rfl), (Nat.le_of_ble_eq_true rfl)⟩ wr_3_72 wr_3_73 (fun _ _ _ h => (hbs657108 _ _ _ h).1) (show 0 + 0 ≤ 0 by first | omega | decide) (show 0 + 0 ≤ 0 by first | omega | decide) (Nat.le_of_ble_eq_true rfl) (fun r657129 w657130 dc657126 ds657127 hp657128 => ?_) (fun _ _ _ _ _ z => z.elim)
  obtain ⟨rfl, rfl, hdc, hds⟩ := hp657128
  change G _ _ _ _ _ _ _ (.int 1 :: _) _ _ _
  refine G_widen (cs' := 0) (sl' := 0) (by omega) (by omega) ?_
  refine G_if_eq 34 dr_cJ0_indexOf_2f485_17 (by decide +kernel) (fun hc => absurd hc (by decide)) (fun _ => ?_)
  refine G_aload_n 1 dr_cJ0_indexOf_2f485_20 rfl ?_
  refine G_kget dr_cJ0_indexOf_2f485_21 wr_8_182 (fun _ _ _ h => (hbs657108 _ _ _ h).2.2.1) ?_
  refine G_aload_n 2 dr_cJ0_indexOf_2f485_24 rfl ?_
  refine Gp_get 0 hmq657104 heq657104 dr_cJ0_indexOf_2f485_25 (gk_J0 D I) (Nat.le_of_ble_eq_true rfl) wr_8_182 rfl ?_
  refine Gw_callS (As := [.ref qb657107, .ref q657105]) (gV_ok D I) (cp_657140_StringLatin1_indexOf l hl0 D I P657102 F657103 q657105 qb657107 bs657108 f657111 n657112 hmq657105 heq657105 (fun _ _ _ h => (hbs657108 _ _ _ h).2.2.2) (by omega) lbs657108 bf657111 (by have qa0 : Int32.toInt 0 = 0 := (by decide); omega) (by have qa0 : Int32.toInt 0 = 0 := (by decide); omega)) dr_cJ0_indexOf_2f485_28 ⟨wr_8_200, wr_1_28, wr_8_202, by decide, rfl, (Nat.le_of_ble_eq_true rfl), (Nat.le_of_ble_eq_true rfl)⟩ wr_8_201 (show 0 + 0 ≤ 0 by first | omega | decide) (show 0 + 0 ≤ 0 by first | omega | decide) (Nat.le_of_ble_eq_true rfl) (fun r664177 w664178 dc664174 ds664175 hp664176 => ?_) (fun _ _ _ _ _ z => z.elim)
  obtain ⟨o664179, rfl, rfl, hdc, hds, bo664179, x664180, x664181, ht664182⟩ := hp664176
  change G _ _ _ _ _ _ _ (.int o664179 :: _) _ _ _
  refine G_widen (cs' := 0) (sl' := 0) (by omega) (by omega) ?_
  refine G_goto 45 dr_cJ0_indexOf_2f485_31 (by decide +kernel) ?_
  exact G_iretA dr_cJ0_indexOf_2f485_45 rfl (Nat.le_of_ble_eq_true rfl) (Nat.le_of_ble_eq_true rfl) ⟨o664179, rfl, rfl, (Nat.le_of_ble_eq_true rfl), (Nat.le_of_ble_eq_true rfl), bo664179, (by have qa0 : Int32.toInt 0 = 0 := (by decide); omega), x664181, (fun R c1 => c1 o664179 bo664179 ht664182)⟩
/- tr_RStringLatin1_canEncode2: result -/
def tr_RStringLatin1_canEncode2 (a0 : Int32) (o1 : Int32) : Prop := ∀ R : (Int32) → Prop,
  (a0.toInt < 0 → R (0 : Int32)) →
  (0 ≤ a0.toInt → 255 < a0.toInt → R (0 : Int32)) →
  (0 ≤ a0.toInt → a0.toInt ≤ 255 → R (1 : Int32)) →
  R o1
abbrev ky_664224_StringLatin1_canEncode : gKey := (cJ1_canEncode_9a6ad, 1, "java/lang/StringLatin1", (some FieldType.boolean), [], "canEncode", fun _ _ => True)
def pp_664224_StringLatin1_canEncode (D : va_G) (I : FieldType → ClassId) (P664221 : List Nat) (F664222 : Nat → va_E) (p664223 : Int32) : Option Value → va_W → Nat → Nat → Prop := fun r w dc ds => (r = some (.int 0) ∧ w = va_pl P664221 F664222 ∧ dc ≤ 0 ∧ ds ≤ 0 ∧ p664223.toInt < 0 ∧ tr_RStringLatin1_canEncode2 p664223 (0 : Int32)) ∨ (r = some (.int 0) ∧ w = va_pl P664221 F664222 ∧ dc ≤ 0 ∧ ds ≤ 0 ∧ 0 ≤ p664223.toInt ∧ 255 < p664223.toInt ∧ tr_RStringLatin1_canEncode2 p664223 (0 : Int32)) ∨ (r = some (.int 1) ∧ w = va_pl P664221 F664222 ∧ dc ≤ 0 ∧ ds ≤ 0 ∧ 0 ≤ p664223.toInt ∧ p664223.toInt ≤ 255 ∧ tr_RStringLatin1_canEncode2 p664223 (1 : Int32))
set_option maxRecDepth 100000 in
set_option maxHeartbeats 4000000 in
theorem cp_664224_StringLatin1_canEncode (l : Launch) (hl0 : l.stackTraces = false) (D : va_G) (I : FieldType → ClassId) (P664221 : List Nat) (F664222 : Nat → va_E) (p664223 : Int32)  : CtA (gV D I) l yJ1_canEncode_9a6ad cJ1_canEncode_9a6ad 1 (some FieldType.boolean) 0 0 0 0 [.int p664223] (va_pl P664221 F664222) (pp_664224_StringLatin1_canEncode D I P664221 F664222 p664223) gNA := by
  refine CtA_ofF hl0 (by decide +kernel) (Nat.le_of_ble_eq_true rfl) ?_
  have bp664223 := gB_any p664223
  refine G_iload_n 0 dr_cJ1_canEncode_9a6ad_0 rfl ?_
  refine G_if_lt 15 dr_cJ1_canEncode_9a6ad_1 (by decide +kernel) (fun hc664225 => ?_) (fun hc664225 => ?_)
  · have r664226 : p664223.toInt < 0 := gj_lt hc664225 (show Int32.toInt 0 = 0 by decide)
    have bp664223' : gB p664223 (-2147483648) (-1) := ⟨by omega, by omega⟩
    refine G_iconst 0 dr_cJ1_canEncode_9a6ad_15 (by decide +kernel) ?_
    exact G_zretA FieldType.boolean dr_cJ1_canEncode_9a6ad_16 rfl rfl (Nat.le_of_ble_eq_true rfl) (Nat.le_of_ble_eq_true rfl) (Or.inl ⟨rfl, rfl, (Nat.le_of_ble_eq_true rfl), (Nat.le_of_ble_eq_true rfl), r664226, (fun R c1 c2 c3 => c1 r664226)⟩)
  · have r664227 : 0 ≤ p664223.toInt := gj_nlt hc664225 (show Int32.toInt 0 = 0 by decide)
    have bp664223' : gB p664223 0 2147483647 := ⟨by omega, by omega⟩
    refine G_iload_n 0 dr_cJ1_canEncode_9a6ad_4 rfl ?_
    refine G_sipush 255 dr_cJ1_canEncode_9a6ad_5 (by decide +kernel) ?_
    refine G_icmp_gt 15 dr_cJ1_canEncode_9a6ad_8 (by decide +kernel) (fun hc664228 => ?_) (fun hc664228 => ?_)
    · have r664229 : 255 < p664223.toInt := gj_ltL hc664228 (show Int32.toInt 255 = 255 by decide)
      have bp664223'' : gB p664223 256 2147483647 := ⟨by omega, by omega⟩
      refine G_iconst 0 dr_cJ1_canEncode_9a6ad_15 (by decide +kernel) ?_
      exact G_zretA FieldType.boolean dr_cJ1_canEncode_9a6ad_16 rfl rfl (Nat.le_of_ble_eq_true rfl) (Nat.le_of_ble_eq_true rfl) (Or.inr (Or.inl ⟨rfl, rfl, (Nat.le_of_ble_eq_true rfl), (Nat.le_of_ble_eq_true rfl), r664227, r664229, (fun R c1 c2 c3 => c2 r664227 r664229)⟩))
    · have r664230 : p664223.toInt ≤ 255 := gj_nltL hc664228 (show Int32.toInt 255 = 255 by decide)
      have bp664223'' : gB p664223 0 255 := ⟨by omega, by omega⟩
      refine G_iconst 1 dr_cJ1_canEncode_9a6ad_11 (by decide +kernel) ?_
      refine G_goto 16 dr_cJ1_canEncode_9a6ad_12 (by decide +kernel) ?_
      exact G_zretA FieldType.boolean dr_cJ1_canEncode_9a6ad_16 rfl rfl (Nat.le_of_ble_eq_true rfl) (Nat.le_of_ble_eq_true rfl) (Or.inr (Or.inr (⟨rfl, rfl, (Nat.le_of_ble_eq_true rfl), (Nat.le_of_ble_eq_true rfl), r664227, r664230, (fun R c1 c2 c3 => c3 r664227 r664230)⟩)))
/- tl_RStringLatin1_indexOfChar_7: l5; out: l5 -/
def tl_RStringLatin1_indexOfChar_7 (a3 : Int32) (bs : List Int32) (c1 : Int32) (s1 : Int32) (k : Nat) (e1 : Int32) : Prop := ∀ R : (Int32) → Nat → (Int32) → Prop,
  (∀ (l5_1 : Int32), gB l5_1 0 65535 → a3.toInt ≤ l5_1.toInt → R l5_1 31 (0 : Int32)) →
  (∀ (l5_1 : Int32) (x1 : Int32) (x2 : Int32) (k : Nat) (e1 : Int32), gB l5_1 0 65535 → l5_1.toInt < a3.toInt → x1 = bs.getD l5_1.toNatClampNeg 0 → x1.toInt ≠ c1.toInt → x2.toInt = l5_1.toInt + 1 → R x2 k e1 → R l5_1 k e1) →
  (∀ (l5_1 : Int32) (x1 : Int32), gB l5_1 0 65535 → l5_1.toInt < a3.toInt → x1 = bs.getD l5_1.toNatClampNeg 0 → x1.toInt = c1.toInt → R l5_1 22 l5_1) →
  R s1 k e1
/- tr_RStringLatin1_indexOfChar: result -/
def tr_RStringLatin1_indexOfChar (bs : List Int32) (a1 : Int32) (a2 : Int32) (a3 : Int32) (o1 : Int32) : Prop := ∀ R : (Int32) → Prop,
  (∀ (x1 : Int32), x1 = a1.toInt8.toInt32 → tl_RStringLatin1_indexOfChar_7 a3 bs x1 a2 31 (0 : Int32) → R (-1 : Int32)) →
  (∀ (x1 : Int32) (x2 : Int32), x1 = a1.toInt8.toInt32 → tl_RStringLatin1_indexOfChar_7 a3 bs x1 a2 22 x2 → R x2) →
  R o1
abbrev ky_664258_StringLatin1_indexOfChar : gKey := (cJ1_indexOfChar_4cfef, 6, "java/lang/StringLatin1", (some FieldType.int), [], "indexOfChar", fun _ _ => True)
def pp_664258_StringLatin1_indexOfChar (D : va_G) (I : FieldType → ClassId) (P664250 : List Nat) (F664251 : Nat → va_E) (qs664252 : Nat) (bs664253 : List Int32) (p664254 : Int32) (p664255 : Int32) (p664256 : Int32) : Option Value → va_W → Nat → Nat → Prop := fun r w dc ds => ∃ (o664288 : Int32), r = some (.int o664288) ∧ w = va_pl P664250 F664251 ∧ dc ≤ 0 ∧ ds ≤ 0 ∧ gB o664288 (-1) 65534 ∧ tr_RStringLatin1_indexOfChar bs664253 p664254 p664255 p664256 o664288
set_option maxRecDepth 100000 in
set_option maxHeartbeats 4000000 in
theorem cp_664258_StringLatin1_indexOfChar (l : Launch) (hl0 : l.stackTraces = false) (D : va_G) (I : FieldType → ClassId) (P664250 : List Nat) (F664251 : Nat → va_E) (qs664252 : Nat) (bs664253 : List Int32) (p664254 : Int32) (p664255 : Int32) (p664256 : Int32) (hbs664253 : ∀ A s H, (gV D I).2.2.2.1 A s H → va_T .byte qs664252 bs664253.length (fun j => .int (bs664253.getD j 0)) A s H) (nbs664253 : (bs664253.length : Int) ≤ 65535) (lbs664253 : gLB bs664253) (bp664254 : gB p664254 0 65535) (bp664255 : gB p664255 0 65535) (bp664256 : gB p664256 0 65535) (x664257 : p664256.toInt ≤ (bs664253.length : Int)) : CtA (gV D I) l yJ1_indexOfChar_4cfef cJ1_indexOfChar_4cfef 6 (some FieldType.int) 0 0 0 0 [.ref qs664252, .int p664254, .int p664255, .int p664256] (va_pl P664250 F664251) (pp_664258_StringLatin1_indexOfChar D I P664250 F664251 qs664252 bs664253 p664254 p664255 p664256) gNA := by
  refine CtA_ofF hl0 (by decide +kernel) (Nat.le_of_ble_eq_true rfl) ?_
  refine G_iload_n 1 dr_cJ1_indexOfChar_4cfef_0 rfl ?_
  refine G_i2b dr_cJ1_indexOfChar_4cfef_1 (G_nam fun z664259 hz664259 => ?_)
  have bz664259 : gB z664259 (-128) 127 := gB_i2b hz664259
  refine G_istore (L' := [(4, .int z664259), (0, .ref qs664252), (1, .int p664254), (2, .int p664255), (3, .int p664256)]) dr_cJ1_indexOfChar_4cfef_2 (Nat.le_of_ble_eq_true rfl) rfl ?_
  refine G_iload_n 3 dr_cJ1_indexOfChar_4cfef_4 rfl ?_
  refine G_istore (L' := [(5, .int p664255), (4, .int z664259), (0, .ref qs664252), (1, .int p664254), (2, .int p664255), (3, .int p664256)]) dr_cJ1_indexOfChar_4cfef_5 (Nat.le_of_ble_eq_true rfl) rfl ?_
  have hlp7_664277 : ∀ (n7_664277 : Nat) (g664277 : Int32), gB g664277 0 65535 → (∀ (k : Nat) (e1 : Int32), tl_RStringLatin1_indexOfChar_7 p664256 bs664253 z664259 g664277 k e1 → tl_RStringLatin1_indexOfChar_7 p664256 bs664253 z664259 p664255 k e1) → ((65536 : Int) - g664277.toInt).toNat < n7_664277 → G (gV D I) l (gRm 0 0 0 0) (gMA (gV D I) (pp_664258_StringLatin1_indexOfChar D I P664250 F664251 qs664252 bs664253 p664254 p664255 p664256) gNA 0 0) ky_664258_StringLatin1_indexOfChar 7 [(5, .int g664277), (4, .int z664259), (0, .ref qs664252), (1, .int p664254), (2, .int p664255), (3, .int p664256)] [] (va_pl P664250 F664251) 0 0 := by
    intro n7_664277
    induction n7_664277 with
    | zero => intro g664277 bg664277 kt7_664277 hm7_664277; exact absurd hm7_664277 (Nat.not_lt_zero _)
    | succ n7_664277 ih7_664277 =>
      intro g664277 bg664277 kt7_664277 hm7_664277
      refine G_iload 0 dr_cJ1_indexOfChar_4cfef_7 rfl ?_
      refine G_iload_n 5 dr_cJ1_indexOfChar_4cfef_9 rfl ?_
      refine G_icmp_ge 31 dr_cJ1_indexOfChar_4cfef_10 (by decide +kernel) (fun hc664278 => ?_) (fun hc664278 => ?_)
      · have r664279 : p664256.toInt ≤ g664277.toInt := gC_le hc664278
        have hx664280 : tl_RStringLatin1_indexOfChar_7 p664256 bs664253 z664259 p664255 31 (0 : Int32) := kt7_664277 31 (0 : Int32) (fun R c1 c2 c3 => c1 g664277 bg664277 r664279)
        refine G_iconst (-1) dr_cJ1_indexOfChar_4cfef_31 (by decide +kernel) ?_
        exact G_iretA dr_cJ1_indexOfChar_4cfef_32 rfl (Nat.le_of_ble_eq_true rfl) (Nat.le_of_ble_eq_true rfl) ⟨(-1), rfl, rfl, (Nat.le_of_ble_eq_true rfl), (Nat.le_of_ble_eq_true rfl), (gB_w (gBl (show Int32.toInt (-1) = (-1) by decide)) (by decide) (by decide)), (fun R c1 c2 => c1 z664259 hz664259 hx664280)⟩
      · have r664281 : g664277.toInt < p664256.toInt := gC_nle hc664278
        have bg664277' : gB g664277 0 65534 := ⟨by omega, by omega⟩
        have bp664256' : gB p664256 1 65535 := ⟨by omega, by omega⟩
        refine G_aload_n 2 dr_cJ1_indexOfChar_4cfef_13 rfl ?_
        refine G_iload 0 dr_cJ1_indexOfChar_4cfef_14 rfl ?_
        refine G_kbald (f := fun j => bs664253.getD j 0) dr_cJ1_indexOfChar_4cfef_16 hbs664253 (gB_inr (by omega) (by omega)) (G_nam fun z664282 hz664282 => ?_)
        have bz664282 : gB z664282 (-2147483648) 2147483647 := gB_any z664282
        refine G_iload 1 dr_cJ1_indexOfChar_4cfef_17 rfl ?_
        refine G_icmp_ne 25 dr_cJ1_indexOfChar_4cfef_19 (by decide +kernel) (fun hc664283 => ?_) (fun hc664283 => ?_)
        · have r664284 : z664282.toInt ≠ z664259.toInt := gC_ne hc664283
          obtain ⟨z664285, hz664285⟩ : ∃ z : Int32, z = g664277 + Int32.ofInt 1 := ⟨_, rfl⟩
          have ez664285 : z664285.toInt = g664277.toInt + 1 := gI_inc hz664285 (by decide) bg664277' (by decide) (by decide)
          have bz664285 : gB z664285 1 65535 := ⟨by omega, by omega⟩
          refine G_iinc (L' := [(5, .int z664285), (4, .int z664259), (0, .ref qs664252), (1, .int p664254), (2, .int p664255), (3, .int p664256)]) z664285 0 dr_cJ1_indexOfChar_4cfef_25 rfl hz664285.symm (Nat.le_of_ble_eq_true rfl) rfl ?_
          refine G_goto 7 dr_cJ1_indexOfChar_4cfef_28 (by decide +kernel) ?_
          exact ih7_664277 z664285 (gB_w bz664285 (by decide) (by decide)) (fun k e1 ht => kt7_664277 k e1 (fun R c1 c2 c3 => c2 g664277 z664282 z664285 k e1 bg664277 r664281 hz664282 r664284 ez664285 (ht R c1 c2 c3))) (by omega)
        · have r664286 : z664282.toInt = z664259.toInt := gC_eq hc664283
          have bz664282' : gB z664282 (-128) 127 := ⟨by omega, by omega⟩
          have hx664287 : tl_RStringLatin1_indexOfChar_7 p664256 bs664253 z664259 p664255 22 g664277 := kt7_664277 22 g664277 (fun R c1 c2 c3 => c3 g664277 z664282 bg664277 r664281 hz664282 r664286)
          refine G_iload 0 dr_cJ1_indexOfChar_4cfef_22 rfl ?_
          exact G_iretA dr_cJ1_indexOfChar_4cfef_24 rfl (Nat.le_of_ble_eq_true rfl) (Nat.le_of_ble_eq_true rfl) ⟨g664277, rfl, rfl, (Nat.le_of_ble_eq_true rfl), (Nat.le_of_ble_eq_true rfl), (gB_w bg664277' (by decide) (by decide)), (fun R c1 c2 => c2 z664259 g664277 hz664259 hx664287)⟩
  exact hlp7_664277 (((65536 : Int) - p664255.toInt).toNat + 1) p664255 bp664255 (fun k e1 ht => ht) (Nat.lt_succ_self _)
/- tr_RStringLatin1_indexOf3: result -/
def tr_RStringLatin1_indexOf3 (bs : List Int32) (a1 : Int32) (a2 : Int32) (a3 : Int32) (o1 : Int32) : Prop := ∀ R : (Int32) → Prop,
  (tr_RStringLatin1_canEncode2 a1 (0 : Int32) → R (-1 : Int32)) →
  (∀ (x1 : Int32) (x2 : Int32) (x3 : Int32) (x4 : Int32), tr_RStringLatin1_canEncode2 a1 (1 : Int32) → (a2.toInt ≤ x1.toInt ∧ 0 ≤ x1.toInt ∧ (x1.toInt = a2.toInt ∨ x1.toInt = 0)) → x2.toInt = (bs.length : Int) → (a3.toInt ≥ x3.toInt ∧ x2.toInt ≥ x3.toInt ∧ (x3.toInt = a3.toInt ∨ x3.toInt = x2.toInt)) → x1.toInt < x3.toInt → gB x4 (-1) 65534 → tr_RStringLatin1_indexOfChar bs a1 x1 x3 x4 → R x4) →
  (∀ (x1 : Int32) (x2 : Int32) (x3 : Int32), tr_RStringLatin1_canEncode2 a1 (1 : Int32) → (a2.toInt ≤ x1.toInt ∧ 0 ≤ x1.toInt ∧ (x1.toInt = a2.toInt ∨ x1.toInt = 0)) → x2.toInt = (bs.length : Int) → (a3.toInt ≥ x3.toInt ∧ x2.toInt ≥ x3.toInt ∧ (x3.toInt = a3.toInt ∨ x3.toInt = x2.toInt)) → x3.toInt ≤ x1.toInt → R (-1 : Int32)) →
  R o1
abbrev ky_664220_StringLatin1_indexOf : gKey := (cJ1_indexOf_4cfef, 4, "java/lang/StringLatin1", (some FieldType.int), [], "indexOf", fun _ _ => True)
def pp_664220_StringLatin1_indexOf (D : va_G) (I : FieldType → ClassId) (P664212 : List Nat) (F664213 : Nat → va_E) (qs664214 : Nat) (bs664215 : List Int32) (p664216 : Int32) (p664217 : Int32) (p664218 : Int32) : Option Value → va_W → Nat → Nat → Prop := fun r w dc ds => ∃ (o664297 : Int32), r = some (.int o664297) ∧ w = va_pl P664212 F664213 ∧ dc ≤ 0 ∧ ds ≤ 0 ∧ gB o664297 (-1) 65534 ∧ tr_RStringLatin1_indexOf3 bs664215 p664216 p664217 p664218 o664297
set_option maxRecDepth 100000 in
set_option maxHeartbeats 4000000 in
theorem cp_664220_StringLatin1_indexOf (l : Launch) (hl0 : l.stackTraces = false) (D : va_G) (I : FieldType → ClassId) (P664212 : List Nat) (F664213 : Nat → va_E) (qs664214 : Nat) (bs664215 : List Int32) (p664216 : Int32) (p664217 : Int32) (p664218 : Int32) (hbs664215 : ∀ A s H, (gV D I).2.2.2.1 A s H → va_T .byte qs664214 bs664215.length (fun j => .int (bs664215.getD j 0)) A s H) (nbs664215 : (bs664215.length : Int) ≤ 65535) (lbs664215 : gLB bs664215) (bp664216 : gB p664216 0 65535) (bp664217 : gB p664217 0 1) (bp664218 : gB p664218 0 65535) (x664219 : p664218.toInt = (bs664215.length : Int)) : CtA (gV D I) l yJ1_indexOf_4cfef cJ1_indexOf_4cfef 4 (some FieldType.int) 1 25 0 0 [.ref qs664214, .int p664216, .int p664217, .int p664218] (va_pl P664212 F664213) (pp_664220_StringLatin1_indexOf D I P664212 F664213 qs664214 bs664215 p664216 p664217 p664218) gNA := by
  refine CtA_ofF hl0 (by decide +kernel) (Nat.le_of_ble_eq_true rfl) ?_
  refine G_iload_n 1 dr_cJ1_indexOf_4cfef_0 rfl ?_
  refine Gw_callS (As := [.int p664216]) (gV_ok D I) (cp_664224_StringLatin1_canEncode l hl0 D I P664212 F664213 p664216 ) dr_cJ1_indexOf_4cfef_1 ⟨wr_9_2, wr_1_28, wr_9_4, by decide, rfl, (Nat.le_of_ble_eq_true rfl), (Nat.le_of_ble_eq_true rfl)⟩ wr_9_3 (show 0 + 0 ≤ 0 by first | omega | decide) (show 0 + 0 ≤ 0 by first | omega | decide) (Nat.le_of_ble_eq_true rfl) (fun r664234 w664235 dc664231 ds664232 hp664233 => ?_) (fun _ _ _ _ _ z => z.elim)
  rcases hp664233 with ⟨rfl, rfl, hdc, hds, r664236, r664237⟩ | ⟨rfl, rfl, hdc, hds, r664238, r664239, r664240⟩ | ⟨rfl, rfl, hdc, hds, r664241, r664242, r664243⟩
  · exact absurd (show False by omega) not_false
  · have bp664216' : gB p664216 256 65535 := ⟨by omega, by omega⟩
    change G _ _ _ _ _ _ _ (.int 0 :: _) _ _ _
    refine G_widen (cs' := 0) (sl' := 0) (by omega) (by omega) ?_
    refine G_if_ne 9 dr_cJ1_indexOf_4cfef_4 (by decide +kernel) (fun hc => absurd hc (by decide)) (fun _ => ?_)
    refine G_iconst (-1) dr_cJ1_indexOf_4cfef_7 (by decide +kernel) ?_
    exact G_iretA dr_cJ1_indexOf_4cfef_8 rfl (Nat.le_of_ble_eq_true rfl) (Nat.le_of_ble_eq_true rfl) ⟨(-1), rfl, rfl, (Nat.le_of_ble_eq_true rfl), (Nat.le_of_ble_eq_true rfl), (gB_w (gBl (show Int32.toInt (-1) = (-1) by decide)) (by decide) (by decide)), (fun R c1 c2 c3 => c1 r664240)⟩
  · have bp664216' : gB p664216 0 255 := ⟨by omega, by omega⟩
    change G _ _ _ _ _ _ _ (.int 1 :: _) _ _ _
    refine G_widen (cs' := 0) (sl' := 0) (by omega) (by omega) ?_
    refine G_if_ne 9 dr_cJ1_indexOf_4cfef_4 (by decide +kernel) (fun _ => ?_) (fun hc => absurd hc (by decide))
    refine G_iload_n 2 dr_cJ1_indexOf_4cfef_9 rfl ?_
    refine G_iconst 0 dr_cJ1_indexOf_4cfef_10 (by decide +kernel) ?_
    refine G_mmax dr_cJ1_indexOf_4cfef_11 wr_9_5 wr_1_140 wr_1_6 wr_1_141 (Nat.le_of_ble_eq_true rfl) (Nat.le_of_ble_eq_true rfl) (show 0 ≤ 0 by first | omega | decide) (show 0 ≤ 0 by first | omega | decide) (G_nam fun z664245 hz664245 => ?_)
    have ez664245 : p664217.toInt ≤ z664245.toInt ∧ 0 ≤ z664245.toInt ∧ (z664245.toInt = p664217.toInt ∨ z664245.toInt = 0) := by have := gI_max hz664245; rw [show Int32.toInt 0 = 0 from by decide] at this; omega
    have bz664245 : gB z664245 0 1 := ⟨by omega, by omega⟩
    refine G_istore_n (L' := [(2, .int z664245), (0, .ref qs664214), (1, .int p664216), (3, .int p664218)]) dr_cJ1_indexOf_4cfef_14 (Nat.le_of_ble_eq_true rfl) rfl ?_
    refine G_iload_n 3 dr_cJ1_indexOf_4cfef_15 rfl ?_
    refine G_aload_n 1 dr_cJ1_indexOf_4cfef_16 rfl ?_
    refine G_klen dr_cJ1_indexOf_4cfef_17 hbs664215 (G_nam fun z664246 hz664246 => ?_)
    have ez664246 : z664246.toInt = (bs664215.length : Int) := gI_ofN hz664246 nbs664215
    have bz664246 : gB z664246 0 65535 := ⟨by omega, by omega⟩
    refine G_mmin dr_cJ1_indexOf_4cfef_18 wr_9_6 wr_3_227 wr_1_6 wr_3_228 (Nat.le_of_ble_eq_true rfl) (Nat.le_of_ble_eq_true rfl) (show 0 ≤ 0 by first | omega | decide) (show 0 ≤ 0 by first | omega | decide) (G_nam fun z664247 hz664247 => ?_)
    have ez664247 : p664218.toInt ≥ z664247.toInt ∧ z664246.toInt ≥ z664247.toInt ∧ (z664247.toInt = p664218.toInt ∨ z664247.toInt = z664246.toInt) := by have := gI_min hz664247; omega
    have bz664247 : gB z664247 0 65535 := ⟨by omega, by omega⟩
    refine G_istore_n (L' := [(3, .int z664247), (2, .int z664245), (0, .ref qs664214), (1, .int p664216)]) dr_cJ1_indexOf_4cfef_21 (Nat.le_of_ble_eq_true rfl) rfl ?_
    refine G_iload_n 1 dr_cJ1_indexOf_4cfef_22 rfl ?_
    refine G_iload_n 0 dr_cJ1_indexOf_4cfef_23 rfl ?_
    refine G_icmp_lt 29 dr_cJ1_indexOf_4cfef_24 (by decide +kernel) (fun hc664248 => ?_) (fun hc664248 => ?_)
    · have r664249 : z664245.toInt < z664247.toInt := gC_lt hc664248
      have bz664247' : gB z664247 1 65535 := ⟨by omega, by omega⟩
      refine G_aload_n 2 dr_cJ1_indexOf_4cfef_29 rfl ?_
      refine G_iload_n 3 dr_cJ1_indexOf_4cfef_30 rfl ?_
      refine G_iload_n 1 dr_cJ1_indexOf_4cfef_31 rfl ?_
      refine G_iload_n 0 dr_cJ1_indexOf_4cfef_32 rfl ?_
      refine Gw_callS (As := [.ref qs664214, .int p664216, .int z664245, .int z664247]) (gV_ok D I) (cp_664258_StringLatin1_indexOfChar l hl0 D I P664212 F664213 qs664214 bs664215 p664216 z664245 z664247 hbs664215 nbs664215 lbs664215 (gB_w bp664216' (by decide) (by decide)) (gB_w bz664245 (by decide) (by decide)) (gB_w bz664247' (by decide) (by decide)) (by omega)) dr_cJ1_indexOf_4cfef_33 ⟨wr_9_7, wr_1_28, wr_9_9, by decide, rfl, (Nat.le_of_ble_eq_true rfl), (Nat.le_of_ble_eq_true rfl)⟩ wr_9_8 (show 0 + 0 ≤ 0 by first | omega | decide) (show 0 + 0 ≤ 0 by first | omega | decide) (Nat.le_of_ble_eq_true rfl) (fun r664292 w664293 dc664289 ds664290 hp664291 => ?_) (fun _ _ _ _ _ z => z.elim)
      obtain ⟨o664294, rfl, rfl, hdc, hds, bo664294, ht664295⟩ := hp664291
      change G _ _ _ _ _ _ _ (.int o664294 :: _) _ _ _
      refine G_widen (cs' := 0) (sl' := 0) (by omega) (by omega) ?_
      exact G_iretA dr_cJ1_indexOf_4cfef_36 rfl (Nat.le_of_ble_eq_true rfl) (Nat.le_of_ble_eq_true rfl) ⟨o664294, rfl, rfl, (Nat.le_of_ble_eq_true rfl), (Nat.le_of_ble_eq_true rfl), bo664294, (fun R c1 c2 c3 => c2 z664245 z664246 z664247 o664294 r664243 ez664245 ez664246 ez664247 r664249 bo664294 ht664295)⟩
    · have r664296 : z664247.toInt ≤ z664245.toInt := gC_nlt hc664248
      have bz664247' : gB z664247 0 1 := ⟨by omega, by omega⟩
      refine G_iconst (-1) dr_cJ1_indexOf_4cfef_27 (by decide +kernel) ?_
      exact G_iretA dr_cJ1_indexOf_4cfef_28 rfl (Nat.le_of_ble_eq_true rfl) (Nat.le_of_ble_eq_true rfl) ⟨(-1), rfl, rfl, (Nat.le_of_ble_eq_true rfl), (Nat.le_of_ble_eq_true rfl), (gB_w (gBl (show Int32.toInt (-1) = (-1) by decide)) (by decide) (by decide)), (fun R c1 c2 c3 => c3 z664245 z664246 z664247 r664243 ez664245 ez664246 ez664247 r664296)⟩
/- tr_RString_indexOf3: result -/
def tr_RString_indexOf3 (bs : List Int32) (a1 : Int32) (a2 : Int32) (o1 : Int32) : Prop := ∀ R : (Int32) → Prop,
  (∀ (x1 : Int32) (x2 : Int32), gB x1 0 65535 → tr_RString_length2 bs x1 → gB x2 (-1) 65534 → tr_RStringLatin1_indexOf3 bs a1 a2 x1 x2 → R x2) →
  R o1
abbrev ky_664198_String_indexOf : gKey := (cJ0_indexOf_7cf53, 3, "java/lang/String", (some FieldType.int), [], "indexOf", fun _ _ => True)
def pp_664198_String_indexOf (D : va_G) (I : FieldType → ClassId) (P664191 : List Nat) (F664192 : Nat → va_E) (qs664193 : Nat) (qb664194 : Nat) (bs664195 : List Int32) (p664196 : Int32) (p664197 : Int32) : Option Value → va_W → Nat → Nat → Prop := fun r w dc ds => ∃ (o664305 : Int32), r = some (.int o664305) ∧ w = va_pl P664191 F664192 ∧ dc ≤ 0 ∧ ds ≤ 0 ∧ gB o664305 (-1) 65534 ∧ tr_RString_indexOf3 bs664195 p664196 p664197 o664305
set_option maxRecDepth 100000 in
set_option maxHeartbeats 4000000 in
theorem cp_664198_String_indexOf (l : Launch) (hl0 : l.stackTraces = false) (D : va_G) (I : FieldType → ClassId) (P664191 : List Nat) (F664192 : Nat → va_E) (qs664193 : Nat) (qb664194 : Nat) (bs664195 : List Int32) (p664196 : Int32) (p664197 : Int32) (hbs664195 : ∀ A s H, (gV D I).2.2.2.1 A s H → gSC qs664193 qb664194 bs664195 A s H) (nbs664195 : (bs664195.length : Int) ≤ 65535) (lbs664195 : gLB bs664195) (bp664196 : gB p664196 0 65535) (bp664197 : gB p664197 0 1) : CtA (gV D I) l yJ0_indexOf_7cf53 cJ0_indexOf_7cf53 3 (some FieldType.int) 2 48 0 0 [.ref qs664193, .int p664196, .int p664197] (va_pl P664191 F664192) (pp_664198_String_indexOf D I P664191 F664192 qs664193 qb664194 bs664195 p664196 p664197) gNA := by
  refine CtA_ofF hl0 (by decide +kernel) (Nat.le_of_ble_eq_true rfl) ?_
  refine G_aload_n 0 dr_cJ0_indexOf_7cf53_0 rfl ?_
  refine Gw_callVk (As := []) (gV_ok D I) (cp_657070_String_isLatin1 l hl0 D I P664191 F664192 qs664193 qb664194 bs664195 hbs664195 nbs664195 lbs664195) dr_cJ0_indexOf_7cf53_1 ⟨wr_3_71, wr_1_21, wr_3_74, by decide, rfl, (Nat.le_of_ble_eq_true rfl), (Nat.le_of_ble_eq_true rfl)⟩ wr_3_72 wr_3_73 (fun _ _ _ h => (hbs664195 _ _ _ h).1) (show 0 + 0 ≤ 0 by first | omega | decide) (show 0 + 0 ≤ 0 by first | omega | decide) (Nat.le_of_ble_eq_true rfl) (fun r664202 w664203 dc664199 ds664200 hp664201 => ?_) (fun _ _ _ _ _ z => z.elim)
  obtain ⟨rfl, rfl, hdc, hds⟩ := hp664201
  change G _ _ _ _ _ _ _ (.int 1 :: _) _ _ _
  refine G_widen (cs' := 0) (sl' := 0) (by omega) (by omega) ?_
  refine G_if_eq 23 dr_cJ0_indexOf_7cf53_4 (by decide +kernel) (fun hc => absurd hc (by decide)) (fun _ => ?_)
  refine G_aload_n 0 dr_cJ0_indexOf_7cf53_7 rfl ?_
  refine G_kget dr_cJ0_indexOf_7cf53_8 wr_8_182 (fun _ _ _ h => (hbs664195 _ _ _ h).2.2.1) ?_
  refine G_iload_n 1 dr_cJ0_indexOf_7cf53_11 rfl ?_
  refine G_iload_n 2 dr_cJ0_indexOf_7cf53_12 rfl ?_
  refine G_aload_n 0 dr_cJ0_indexOf_7cf53_13 rfl ?_
  refine Gw_callVk (As := []) (gV_ok D I) (cp_656203_String_length l hl0 D I P664191 F664192 qs664193 qb664194 bs664195 hbs664195 nbs664195 lbs664195) dr_cJ0_indexOf_7cf53_14 ⟨wr_8_238, wr_1_21, wr_3_60, by decide, rfl, (Nat.le_of_ble_eq_true rfl), (Nat.le_of_ble_eq_true rfl)⟩ wr_3_58 wr_3_59 (fun _ _ _ h => (hbs664195 _ _ _ h).1) (show 0 + 0 ≤ 0 by first | omega | decide) (show 0 + 0 ≤ 0 by first | omega | decide) (Nat.le_of_ble_eq_true rfl) (fun r664207 w664208 dc664204 ds664205 hp664206 => ?_) (fun _ _ _ _ _ z => z.elim)
  obtain ⟨o664209, rfl, rfl, hdc, hds, bo664209, x664210, ht664211⟩ := hp664206
  change G _ _ _ _ _ _ _ (.int o664209 :: _) _ _ _
  refine G_widen (cs' := 0) (sl' := 0) (by omega) (by omega) ?_
  refine Gw_callS (As := [.ref qb664194, .int p664196, .int p664197, .int o664209]) (gV_ok D I) (cp_664220_StringLatin1_indexOf l hl0 D I P664191 F664192 qb664194 bs664195 p664196 p664197 o664209 (fun _ _ _ h => (hbs664195 _ _ _ h).2.2.2) (by omega) lbs664195 bp664196 bp664197 bo664209 (by omega)) dr_cJ0_indexOf_7cf53_17 ⟨wr_8_239, wr_1_28, wr_9_1, by decide, rfl, (Nat.le_of_ble_eq_true rfl), (Nat.le_of_ble_eq_true rfl)⟩ wr_9_0 (show 0 + 0 ≤ 0 by first | omega | decide) (show 0 + 0 ≤ 0 by first | omega | decide) (Nat.le_of_ble_eq_true rfl) (fun r664301 w664302 dc664298 ds664299 hp664300 => ?_) (fun _ _ _ _ _ z => z.elim)
  obtain ⟨o664303, rfl, rfl, hdc, hds, bo664303, ht664304⟩ := hp664300
  change G _ _ _ _ _ _ _ (.int o664303 :: _) _ _ _
  refine G_widen (cs' := 0) (sl' := 0) (by omega) (by omega) ?_
  refine G_goto 36 dr_cJ0_indexOf_7cf53_20 (by decide +kernel) ?_
  exact G_iretA dr_cJ0_indexOf_7cf53_36 rfl (Nat.le_of_ble_eq_true rfl) (Nat.le_of_ble_eq_true rfl) ⟨o664303, rfl, rfl, (Nat.le_of_ble_eq_true rfl), (Nat.le_of_ble_eq_true rfl), bo664303, (fun R c1 => c1 o664209 o664303 bo664209 ht664211 bo664303 ht664304)⟩
/- tr_RString_indexOf2: result -/
def tr_RString_indexOf2 (bs : List Int32) (a1 : Int32) (o1 : Int32) : Prop := ∀ R : (Int32) → Prop,
  (∀ (x1 : Int32), gB x1 (-1) 65534 → tr_RString_indexOf3 bs a1 (0 : Int32) x1 → R x1) →
  R o1
abbrev ky_664190_String_indexOf : gKey := (cJ0_indexOf_0f7a4, 2, "java/lang/String", (some FieldType.int), [], "indexOf", fun _ _ => True)
def pp_664190_String_indexOf (D : va_G) (I : FieldType → ClassId) (P664184 : List Nat) (F664185 : Nat → va_E) (qs664186 : Nat) (qb664187 : Nat) (bs664188 : List Int32) (p664189 : Int32) : Option Value → va_W → Nat → Nat → Prop := fun r w dc ds => ∃ (o664313 : Int32), r = some (.int o664313) ∧ w = va_pl P664184 F664185 ∧ dc ≤ 0 ∧ ds ≤ 0 ∧ gB o664313 (-1) 65534 ∧ tr_RString_indexOf2 bs664188 p664189 o664313
set_option maxRecDepth 100000 in
set_option maxHeartbeats 4000000 in
theorem cp_664190_String_indexOf (l : Launch) (hl0 : l.stackTraces = false) (D : va_G) (I : FieldType → ClassId) (P664184 : List Nat) (F664185 : Nat → va_E) (qs664186 : Nat) (qb664187 : Nat) (bs664188 : List Int32) (p664189 : Int32) (hbs664188 : ∀ A s H, (gV D I).2.2.2.1 A s H → gSC qs664186 qb664187 bs664188 A s H) (nbs664188 : (bs664188.length : Int) ≤ 65535) (lbs664188 : gLB bs664188) (bp664189 : gB p664189 0 65535) : CtA (gV D I) l yJ0_indexOf_0f7a4 cJ0_indexOf_0f7a4 2 (some FieldType.int) 3 70 0 0 [.ref qs664186, .int p664189] (va_pl P664184 F664185) (pp_664190_String_indexOf D I P664184 F664185 qs664186 qb664187 bs664188 p664189) gNA := by
  refine CtA_ofF hl0 (by decide +kernel) (Nat.le_of_ble_eq_true rfl) ?_
  refine G_aload_n 0 dr_cJ0_indexOf_0f7a4_0 rfl ?_
  refine G_iload_n 1 dr_cJ0_indexOf_0f7a4_1 rfl ?_
  refine G_iconst 0 dr_cJ0_indexOf_0f7a4_2 (by decide +kernel) ?_
  refine Gw_callVk (As := [.int p664189, .int 0]) (gV_ok D I) (cp_664198_String_indexOf l hl0 D I P664184 F664185 qs664186 qb664187 bs664188 p664189 0 hbs664188 nbs664188 lbs664188 bp664189 (gB_w (gBl (show Int32.toInt 0 = 0 by decide)) (by decide) (by decide))) dr_cJ0_indexOf_0f7a4_3 ⟨wr_8_234, wr_1_21, wr_8_237, by decide, rfl, (Nat.le_of_ble_eq_true rfl), (Nat.le_of_ble_eq_true rfl)⟩ wr_8_235 wr_8_236 (fun _ _ _ h => (hbs664188 _ _ _ h).1) (show 0 + 0 ≤ 0 by first | omega | decide) (show 0 + 0 ≤ 0 by first | omega | decide) (Nat.le_of_ble_eq_true rfl) (fun r664309 w664310 dc664306 ds664307 hp664308 => ?_) (fun _ _ _ _ _ z => z.elim)
  obtain ⟨o664311, rfl, rfl, hdc, hds, bo664311, ht664312⟩ := hp664308
  change G _ _ _ _ _ _ _ (.int o664311 :: _) _ _ _
  refine G_widen (cs' := 0) (sl' := 0) (by omega) (by omega) ?_
  exact G_iretA dr_cJ0_indexOf_0f7a4_6 rfl (Nat.le_of_ble_eq_true rfl) (Nat.le_of_ble_eq_true rfl) ⟨o664311, rfl, rfl, (Nat.le_of_ble_eq_true rfl), (Nat.le_of_ble_eq_true rfl), bo664311, (fun R c1 => c1 o664311 bo664311 ht664312)⟩
/- tl_RInteger_stringSize_16: l3, l2; out: l3 -/
def tl_RInteger_stringSize_16 (a0 : Int32) (s1 : Int32) (s2 : Int32) (k : Nat) (e1 : Int32) : Prop := ∀ R : (Int32) → (Int32) → Nat → (Int32) → Prop,
  (∀ (l3_1 : Int32) (l2_1 : Int32), gB l3_1 1 10 → 10 ≤ l3_1.toInt → R l3_1 l2_1 42 (0 : Int32)) →
  (∀ (l3_1 : Int32) (l2_1 : Int32) (x1 : Int32) (x2 : Int32) (k : Nat) (e1 : Int32), gB l3_1 1 10 → l3_1.toInt < 10 → a0.toInt ≤ l2_1.toInt → x1 = (10 : Int32) * l2_1 → x2.toInt = l3_1.toInt + 1 → R x2 x1 k e1 → R l3_1 l2_1 k e1) →
  (∀ (l3_1 : Int32) (l2_1 : Int32), gB l3_1 1 10 → l3_1.toInt < 10 → l2_1.toInt < a0.toInt → R l3_1 l2_1 27 l3_1) →
  R s1 s2 k e1
/- tl_RInteger_stringSize_16_2: l3, l2; out: l3 -/
def tl_RInteger_stringSize_16_2 (c1 : Int32) (s1 : Int32) (s2 : Int32) (k : Nat) (e1 : Int32) : Prop := ∀ R : (Int32) → (Int32) → Nat → (Int32) → Prop,
  (∀ (l3_1 : Int32) (l2_1 : Int32), gB l3_1 1 10 → 10 ≤ l3_1.toInt → R l3_1 l2_1 42 (0 : Int32)) →
  (∀ (l3_1 : Int32) (l2_1 : Int32) (x1 : Int32) (x2 : Int32) (k : Nat) (e1 : Int32), gB l3_1 1 10 → l3_1.toInt < 10 → c1.toInt ≤ l2_1.toInt → x1 = (10 : Int32) * l2_1 → x2.toInt = l3_1.toInt + 1 → R x2 x1 k e1 → R l3_1 l2_1 k e1) →
  (∀ (l3_1 : Int32) (l2_1 : Int32), gB l3_1 1 10 → l3_1.toInt < 10 → l2_1.toInt < c1.toInt → R l3_1 l2_1 27 l3_1) →
  R s1 s2 k e1
/- tr_RInteger_stringSize: result -/
def tr_RInteger_stringSize (a0 : Int32) (o1 : Int32) : Prop := ∀ R : (Int32) → Prop,
  (a0.toInt < 0 → tl_RInteger_stringSize_16 a0 (1 : Int32) (-10 : Int32) 42 (0 : Int32) → R (11 : Int32)) →
  (∀ (x1 : Int32) (x2 : Int32), a0.toInt < 0 → tl_RInteger_stringSize_16 a0 (1 : Int32) (-10 : Int32) 27 x1 → x2.toInt = x1.toInt + 1 → R x2) →
  (∀ (x1 : Int32), 0 ≤ a0.toInt → x1 = -a0 → tl_RInteger_stringSize_16_2 x1 (1 : Int32) (-10 : Int32) 42 (0 : Int32) → R (10 : Int32)) →
  (∀ (x1 : Int32) (x2 : Int32) (x3 : Int32), 0 ≤ a0.toInt → x1 = -a0 → tl_RInteger_stringSize_16_2 x1 (1 : Int32) (-10 : Int32) 27 x2 → x3.toInt = x2.toInt + 0 → R x3) →
  R o1
abbrev ky_664343_Integer_stringSize : gKey := (cJ6_stringSize_0f7a4, 4, "java/lang/Integer", (some FieldType.int), [], "stringSize", fun _ _ => True)
def pp_664343_Integer_stringSize (D : va_G) (I : FieldType → ClassId) (P664340 : List Nat) (F664341 : Nat → va_E) (p664342 : Int32) : Option Value → va_W → Nat → Nat → Prop := fun r w dc ds => ∃ (o664474 : Int32), r = some (.int o664474) ∧ w = va_pl P664340 F664341 ∧ dc ≤ 0 ∧ ds ≤ 0 ∧ gB o664474 1 11 ∧ dgS p664342.toInt o664474.toInt ∧ tr_RInteger_stringSize p664342 o664474
set_option maxRecDepth 100000 in
set_option maxHeartbeats 4000000 in
theorem cp_664343_Integer_stringSize (l : Launch) (hl0 : l.stackTraces = false) (D : va_G) (I : FieldType → ClassId) (P664340 : List Nat) (F664341 : Nat → va_E) (p664342 : Int32)  : CtA (gV D I) l yJ6_stringSize_0f7a4 cJ6_stringSize_0f7a4 4 (some FieldType.int) 0 0 0 0 [.int p664342] (va_pl P664340 F664341) (pp_664343_Integer_stringSize D I P664340 F664341 p664342) gNA := by
  refine CtA_ofF hl0 (by decide +kernel) (Nat.le_of_ble_eq_true rfl) ?_
  have bp664342 := gB_any p664342
  refine G_iconst 1 dr_cJ6_stringSize_0f7a4_0 (by decide +kernel) ?_
  refine G_istore_n (L' := [(1, .int 1), (0, .int p664342)]) dr_cJ6_stringSize_0f7a4_1 (Nat.le_of_ble_eq_true rfl) rfl ?_
  refine G_iload_n 1 dr_cJ6_stringSize_0f7a4_2 rfl ?_
  refine G_if_lt 11 dr_cJ6_stringSize_0f7a4_3 (by decide +kernel) (fun hc664344 => ?_) (fun hc664344 => ?_)
  · have r664345 : p664342.toInt < 0 := gj_lt hc664344 (show Int32.toInt 0 = 0 by decide)
    have bp664342' : gB p664342 (-2147483648) (-1) := ⟨by omega, by omega⟩
    refine G_bipush (-10) dr_cJ6_stringSize_0f7a4_11 (by decide +kernel) ?_
    refine G_istore_n (L' := [(2, .int (-10)), (1, .int 1), (0, .int p664342)]) dr_cJ6_stringSize_0f7a4_13 (Nat.le_of_ble_eq_true rfl) rfl ?_
    refine G_iconst 1 dr_cJ6_stringSize_0f7a4_14 (by decide +kernel) ?_
    refine G_istore_n (L' := [(3, .int 1), (2, .int (-10)), (1, .int 1), (0, .int p664342)]) dr_cJ6_stringSize_0f7a4_15 (Nat.le_of_ble_eq_true rfl) rfl ?_
    have hlp16_664397 : ∀ (n16_664397 : Nat) (g664395 : Int32) (g664396 : Int32), gB g664395 1 10 → ssI g664395 g664396 → (∀ (k : Nat) (e1 : Int32), tl_RInteger_stringSize_16 p664342 g664395 g664396 k e1 → tl_RInteger_stringSize_16 p664342 (1 : Int32) (-10 : Int32) k e1) → ((11 : Int) - g664395.toInt).toNat < n16_664397 → G (gV D I) l (gRm 0 0 0 0) (gMA (gV D I) (pp_664343_Integer_stringSize D I P664340 F664341 p664342) gNA 0 0) ky_664343_Integer_stringSize 16 [(3, .int g664395), (2, .int g664396), (1, .int 1), (0, .int p664342)] [] (va_pl P664340 F664341) 0 0 := by
      intro n16_664397
      induction n16_664397 with
      | zero => intro g664395 g664396 bg664395 x664397 kt16_664397 hm16_664397; exact absurd hm16_664397 (Nat.not_lt_zero _)
      | succ n16_664397 ih16_664397 =>
        intro g664395 g664396 bg664395 x664397 kt16_664397 hm16_664397
        have bg664396 := gB_any g664396
        refine G_iload_n 0 dr_cJ6_stringSize_0f7a4_16 rfl ?_
        refine G_bipush 10 dr_cJ6_stringSize_0f7a4_17 (by decide +kernel) ?_
        refine G_icmp_ge 42 dr_cJ6_stringSize_0f7a4_19 (by decide +kernel) (fun hc664398 => ?_) (fun hc664398 => ?_)
        · have r664399 : 10 ≤ g664395.toInt := gj_leL hc664398 (show Int32.toInt 10 = 10 by decide)
          have bg664395' : gB g664395 10 10 := ⟨by omega, by omega⟩
          have hx664400 : tl_RInteger_stringSize_16 p664342 (1 : Int32) (-10 : Int32) 42 (0 : Int32) := kt16_664397 42 (0 : Int32) (fun R c1 c2 c3 => c1 g664395 g664396 bg664395 r664399)
          refine G_bipush 10 dr_cJ6_stringSize_0f7a4_42 (by decide +kernel) ?_
          refine G_iload_n 2 dr_cJ6_stringSize_0f7a4_44 rfl ?_
          refine G_iadd dr_cJ6_stringSize_0f7a4_45 ?_
          refine G_eqi (y := 11) (by decide) ?_
          exact G_iretA dr_cJ6_stringSize_0f7a4_46 rfl (Nat.le_of_ble_eq_true rfl) (Nat.le_of_ble_eq_true rfl) ⟨11, rfl, rfl, (Nat.le_of_ble_eq_true rfl), (Nat.le_of_ble_eq_true rfl), (gB_w (gBl (show Int32.toInt 11 = 11 by decide)) (by decide) (by decide)), (by have q10 : Int32.toInt 10 = 10 := (by decide); have q11 : Int32.toInt 11 = 11 := (by decide); first | exact dgS_p (x := -p664342.toInt) (by omega) rfl (dgB_up (ssI_r x664397 (by omega) (fun _ => by omega)) (by omega) (by omega)) | exact dgS_n (by omega) (by omega) (ssI_r x664397 (by omega) (fun _ => by omega))), (fun R c1 c2 c3 c4 => c1 r664345 hx664400)⟩
        · have r664401 : g664395.toInt < 10 := gj_nleL hc664398 (show Int32.toInt 10 = 10 by decide)
          have bg664395' : gB g664395 1 9 := ⟨by omega, by omega⟩
          refine G_iload_n 3 dr_cJ6_stringSize_0f7a4_22 rfl ?_
          refine G_iload_n 1 dr_cJ6_stringSize_0f7a4_23 rfl ?_
          refine G_icmp_le 31 dr_cJ6_stringSize_0f7a4_24 (by decide +kernel) (fun hc664402 => ?_) (fun hc664402 => ?_)
          · have r664403 : p664342.toInt ≤ g664396.toInt := gC_le hc664402
            refine G_bipush 10 dr_cJ6_stringSize_0f7a4_31 (by decide +kernel) ?_
            refine G_iload_n 1 dr_cJ6_stringSize_0f7a4_33 rfl ?_
            refine G_imul dr_cJ6_stringSize_0f7a4_34 (G_nam fun z664404 hz664404 => ?_)
            have bz664404 : gB z664404 (-2147483648) 2147483647 := gB_any z664404
            refine G_istore_n (L' := [(2, .int z664404), (3, .int g664395), (1, .int 1), (0, .int p664342)]) dr_cJ6_stringSize_0f7a4_35 (Nat.le_of_ble_eq_true rfl) rfl ?_
            obtain ⟨z664405, hz664405⟩ : ∃ z : Int32, z = g664395 + Int32.ofInt 1 := ⟨_, rfl⟩
            have ez664405 : z664405.toInt = g664395.toInt + 1 := gI_inc hz664405 (by decide) bg664395' (by decide) (by decide)
            have bz664405 : gB z664405 2 10 := ⟨by omega, by omega⟩
            refine G_iinc (L' := [(3, .int z664405), (2, .int z664404), (1, .int 1), (0, .int p664342)]) z664405 1 dr_cJ6_stringSize_0f7a4_36 rfl hz664405.symm (Nat.le_of_ble_eq_true rfl) rfl ?_
            refine G_goto 16 dr_cJ6_stringSize_0f7a4_39 (by decide +kernel) ?_
            exact ih16_664397 z664405 z664404 (gB_w bz664405 (by decide) (by decide)) (ssI_st x664397 (by omega) (by omega) hz664404) (fun k e1 ht => kt16_664397 k e1 (fun R c1 c2 c3 => c2 g664395 g664396 z664404 z664405 k e1 bg664395 r664401 r664403 hz664404 ez664405 (ht R c1 c2 c3))) (by have qa0 : Int32.toInt 1 = 1 := (by decide); omega)
          · have r664406 : g664396.toInt < p664342.toInt := gC_nle hc664402
            have bg664396' : gB g664396 (-2147483648) (-2) := ⟨by omega, by omega⟩
            have bp664342'' : gB p664342 (-2147483647) (-1) := ⟨by omega, by omega⟩
            have hx664407 : tl_RInteger_stringSize_16 p664342 (1 : Int32) (-10 : Int32) 27 g664395 := kt16_664397 27 g664395 (fun R c1 c2 c3 => c3 g664395 g664396 bg664395 r664401 r664406)
            refine G_iload_n 0 dr_cJ6_stringSize_0f7a4_27 rfl ?_
            refine G_iload_n 2 dr_cJ6_stringSize_0f7a4_28 rfl ?_
            refine G_iadd dr_cJ6_stringSize_0f7a4_29 (G_nam fun z664408 hz664408 => ?_)
            have ez664408 : z664408.toInt = g664395.toInt + 1 := by rw [gI_add hz664408 bg664395' (gBl (show Int32.toInt 1 = 1 by decide)) (by decide) (by decide), show Int32.toInt 1 = 1 from by decide]
            have bz664408 : gB z664408 2 10 := gB_add (gI_add hz664408 bg664395' (gBl (show Int32.toInt 1 = 1 by decide)) (by decide) (by decide)) bg664395' (gBl (show Int32.toInt 1 = 1 by decide)) (by decide) (by decide)
            exact G_iretA dr_cJ6_stringSize_0f7a4_30 rfl (Nat.le_of_ble_eq_true rfl) (Nat.le_of_ble_eq_true rfl) ⟨z664408, rfl, rfl, (Nat.le_of_ble_eq_true rfl), (Nat.le_of_ble_eq_true rfl), (gB_w bz664408 (by decide) (by decide)), (by have q10 : Int32.toInt 10 = 10 := (by decide); have q11 : Int32.toInt 11 = 11 := (by decide); first | exact dgS_p (x := -p664342.toInt) (by omega) rfl (dgB_up (ssI_r x664397 (by omega) (fun _ => by omega)) (by omega) (by omega)) | exact dgS_n (by omega) (by omega) (ssI_r x664397 (by omega) (fun _ => by omega))), (fun R c1 c2 c3 c4 => c2 g664395 z664408 r664345 hx664407 ez664408)⟩
    exact hlp16_664397 (((11 : Int) - 1).toNat + 1) 1 (-10) (gB_w (gBl (show Int32.toInt 1 = 1 by decide)) (by decide) (by decide)) ssI_0 (fun k e1 ht => ht) (Nat.lt_succ_self _)
  · have r664409 : 0 ≤ p664342.toInt := gj_nlt hc664344 (show Int32.toInt 0 = 0 by decide)
    have bp664342' : gB p664342 0 2147483647 := ⟨by omega, by omega⟩
    refine G_iconst 0 dr_cJ6_stringSize_0f7a4_6 (by decide +kernel) ?_
    refine G_istore_n (L' := [(1, .int 0), (0, .int p664342)]) dr_cJ6_stringSize_0f7a4_7 (Nat.le_of_ble_eq_true rfl) rfl ?_
    refine G_iload_n 1 dr_cJ6_stringSize_0f7a4_8 rfl ?_
    refine G_ineg dr_cJ6_stringSize_0f7a4_9 (G_nam fun z664410 hz664410 => ?_)
    have ez664410 : z664410.toInt = -p664342.toInt := gI_neg hz664410 bp664342' (by decide)
    have bz664410 : gB z664410 (-2147483647) 0 := ⟨by omega, by omega⟩
    refine G_istore_n (L' := [(0, .int z664410), (1, .int 0)]) dr_cJ6_stringSize_0f7a4_10 (Nat.le_of_ble_eq_true rfl) rfl ?_
    refine G_bipush (-10) dr_cJ6_stringSize_0f7a4_11 (by decide +kernel) ?_
    refine G_istore_n (L' := [(2, .int (-10)), (0, .int z664410), (1, .int 0)]) dr_cJ6_stringSize_0f7a4_13 (Nat.le_of_ble_eq_true rfl) rfl ?_
    refine G_iconst 1 dr_cJ6_stringSize_0f7a4_14 (by decide +kernel) ?_
    refine G_istore_n (L' := [(3, .int 1), (2, .int (-10)), (0, .int z664410), (1, .int 0)]) dr_cJ6_stringSize_0f7a4_15 (Nat.le_of_ble_eq_true rfl) rfl ?_
    have hlp16_664462 : ∀ (n16_664462 : Nat) (g664460 : Int32) (g664461 : Int32), gB g664460 1 10 → ssI g664460 g664461 → (∀ (k : Nat) (e1 : Int32), tl_RInteger_stringSize_16_2 z664410 g664460 g664461 k e1 → tl_RInteger_stringSize_16_2 z664410 (1 : Int32) (-10 : Int32) k e1) → ((11 : Int) - g664460.toInt).toNat < n16_664462 → G (gV D I) l (gRm 0 0 0 0) (gMA (gV D I) (pp_664343_Integer_stringSize D I P664340 F664341 p664342) gNA 0 0) ky_664343_Integer_stringSize 16 [(3, .int g664460), (2, .int g664461), (0, .int z664410), (1, .int 0)] [] (va_pl P664340 F664341) 0 0 := by
      intro n16_664462
      induction n16_664462 with
      | zero => intro g664460 g664461 bg664460 x664462 kt16_664462 hm16_664462; exact absurd hm16_664462 (Nat.not_lt_zero _)
      | succ n16_664462 ih16_664462 =>
        intro g664460 g664461 bg664460 x664462 kt16_664462 hm16_664462
        have bg664461 := gB_any g664461
        refine G_iload_n 0 dr_cJ6_stringSize_0f7a4_16 rfl ?_
        refine G_bipush 10 dr_cJ6_stringSize_0f7a4_17 (by decide +kernel) ?_
        refine G_icmp_ge 42 dr_cJ6_stringSize_0f7a4_19 (by decide +kernel) (fun hc664463 => ?_) (fun hc664463 => ?_)
        · have r664464 : 10 ≤ g664460.toInt := gj_leL hc664463 (show Int32.toInt 10 = 10 by decide)
          have bg664460' : gB g664460 10 10 := ⟨by omega, by omega⟩
          have hx664465 : tl_RInteger_stringSize_16_2 z664410 (1 : Int32) (-10 : Int32) 42 (0 : Int32) := kt16_664462 42 (0 : Int32) (fun R c1 c2 c3 => c1 g664460 g664461 bg664460 r664464)
          refine G_bipush 10 dr_cJ6_stringSize_0f7a4_42 (by decide +kernel) ?_
          refine G_iload_n 3 dr_cJ6_stringSize_0f7a4_44 rfl ?_
          refine G_iadd dr_cJ6_stringSize_0f7a4_45 ?_
          refine G_eqi (y := 10) (by decide) ?_
          exact G_iretA dr_cJ6_stringSize_0f7a4_46 rfl (Nat.le_of_ble_eq_true rfl) (Nat.le_of_ble_eq_true rfl) ⟨10, rfl, rfl, (Nat.le_of_ble_eq_true rfl), (Nat.le_of_ble_eq_true rfl), (gB_w (gBl (show Int32.toInt 10 = 10 by decide)) (by decide) (by decide)), (by have q10 : Int32.toInt 10 = 10 := (by decide); have q11 : Int32.toInt 11 = 11 := (by decide); first | exact dgS_p (x := -p664342.toInt) (by omega) rfl (dgB_up (ssI_r x664462 (by omega) (fun _ => by omega)) (by omega) (by omega)) | exact dgS_n (by omega) (by omega) (ssI_r x664462 (by omega) (fun _ => by omega))), (fun R c1 c2 c3 c4 => c3 z664410 r664409 hz664410 hx664465)⟩
        · have r664466 : g664460.toInt < 10 := gj_nleL hc664463 (show Int32.toInt 10 = 10 by decide)
          have bg664460' : gB g664460 1 9 := ⟨by omega, by omega⟩
          refine G_iload_n 2 dr_cJ6_stringSize_0f7a4_22 rfl ?_
          refine G_iload_n 1 dr_cJ6_stringSize_0f7a4_23 rfl ?_
          refine G_icmp_le 31 dr_cJ6_stringSize_0f7a4_24 (by decide +kernel) (fun hc664467 => ?_) (fun hc664467 => ?_)
          · have r664468 : z664410.toInt ≤ g664461.toInt := gC_le hc664467
            have bg664461' : gB g664461 (-2147483647) 2147483647 := ⟨by omega, by omega⟩
            refine G_bipush 10 dr_cJ6_stringSize_0f7a4_31 (by decide +kernel) ?_
            refine G_iload_n 1 dr_cJ6_stringSize_0f7a4_33 rfl ?_
            refine G_imul dr_cJ6_stringSize_0f7a4_34 (G_nam fun z664469 hz664469 => ?_)
            have bz664469 : gB z664469 (-2147483648) 2147483647 := gB_any z664469
            refine G_istore_n (L' := [(2, .int z664469), (3, .int g664460), (0, .int z664410), (1, .int 0)]) dr_cJ6_stringSize_0f7a4_35 (Nat.le_of_ble_eq_true rfl) rfl ?_
            obtain ⟨z664470, hz664470⟩ : ∃ z : Int32, z = g664460 + Int32.ofInt 1 := ⟨_, rfl⟩
            have ez664470 : z664470.toInt = g664460.toInt + 1 := gI_inc hz664470 (by decide) bg664460' (by decide) (by decide)
            have bz664470 : gB z664470 2 10 := ⟨by omega, by omega⟩
            refine G_iinc (L' := [(3, .int z664470), (2, .int z664469), (0, .int z664410), (1, .int 0)]) z664470 1 dr_cJ6_stringSize_0f7a4_36 rfl hz664470.symm (Nat.le_of_ble_eq_true rfl) rfl ?_
            refine G_goto 16 dr_cJ6_stringSize_0f7a4_39 (by decide +kernel) ?_
            exact ih16_664462 z664470 z664469 (gB_w bz664470 (by decide) (by decide)) (ssI_st x664462 (by omega) (by omega) hz664469) (fun k e1 ht => kt16_664462 k e1 (fun R c1 c2 c3 => c2 g664460 g664461 z664469 z664470 k e1 bg664460 r664466 r664468 hz664469 ez664470 (ht R c1 c2 c3))) (by have qa0 : Int32.toInt 0 = 0 := (by decide); omega)
          · have r664471 : g664461.toInt < z664410.toInt := gC_nle hc664467
            have bg664461' : gB g664461 (-2147483648) (-1) := ⟨by omega, by omega⟩
            have hx664472 : tl_RInteger_stringSize_16_2 z664410 (1 : Int32) (-10 : Int32) 27 g664460 := kt16_664462 27 g664460 (fun R c1 c2 c3 => c3 g664460 g664461 bg664460 r664466 r664471)
            refine G_iload_n 0 dr_cJ6_stringSize_0f7a4_27 rfl ?_
            refine G_iload_n 3 dr_cJ6_stringSize_0f7a4_28 rfl ?_
            refine G_iadd dr_cJ6_stringSize_0f7a4_29 (G_nam fun z664473 hz664473 => ?_)
            have ez664473 : z664473.toInt = g664460.toInt + 0 := by rw [gI_add hz664473 bg664460' (gBl (show Int32.toInt 0 = 0 by decide)) (by decide) (by decide), show Int32.toInt 0 = 0 from by decide]
            have bz664473 : gB z664473 1 9 := gB_add (gI_add hz664473 bg664460' (gBl (show Int32.toInt 0 = 0 by decide)) (by decide) (by decide)) bg664460' (gBl (show Int32.toInt 0 = 0 by decide)) (by decide) (by decide)
            exact G_iretA dr_cJ6_stringSize_0f7a4_30 rfl (Nat.le_of_ble_eq_true rfl) (Nat.le_of_ble_eq_true rfl) ⟨z664473, rfl, rfl, (Nat.le_of_ble_eq_true rfl), (Nat.le_of_ble_eq_true rfl), (gB_w bz664473 (by decide) (by decide)), (by have q10 : Int32.toInt 10 = 10 := (by decide); have q11 : Int32.toInt 11 = 11 := (by decide); first | exact dgS_p (x := -p664342.toInt) (by omega) rfl (dgB_up (ssI_r x664462 (by omega) (fun _ => by omega)) (by omega) (by omega)) | exact dgS_n (by omega) (by omega) (ssI_r x664462 (by omega) (fun _ => by omega))), (fun R c1 c2 c3 c4 => c4 z664410 g664460 z664473 r664409 hz664410 hx664472 ez664473)⟩
    exact hlp16_664462 (((11 : Int) - 1).toNat + 1) 1 (-10) (gB_w (gBl (show Int32.toInt 1 = 1 by decide)) (by decide) (by decide)) ssI_0 (fun k e1 ht => ht) (Nat.lt_succ_self _)
/- tl_RInteger_getChars_22: l0, l5, a2_v; out: l0, l5, a2_v -/
def tl_RInteger_getChars_22 (s1 : Int32) (s2 : Int32) (s3 : Nat → Int32) (k : Nat) (e1 : Int32) (e2 : Int32) (e3 : Nat → Int32) : Prop := ∀ R : (Int32) → (Int32) → (Nat → Int32) → Nat → (Int32) → (Int32) → (Nat → Int32) → Prop,
  (∀ (l0_1 : Int32) (l5_1 : Int32) (a2_v_1 : Nat → Int32), gB l0_1 (-2147483647) 0 → gB l5_1 0 16777216 → (-100) < l0_1.toInt → R l0_1 l5_1 a2_v_1 72 l0_1 l5_1 a2_v_1) →
  (∀ (l0_1 : Int32) (l5_1 : Int32) (a2_v_1 : Nat → Int32) (x1 : Int32) (x2 : Int32) (x3 : Int32) (x4 : Int32) (x5 : Int32) (x6 : Nat → Int32) (x7 : Int32) (x8 : Int32) (x9 : Nat → Int32) (k : Nat) (e1 : Int32) (e2 : Int32) (e3 : Nat → Int32), gB l0_1 (-2147483647) 0 → gB l5_1 0 16777216 → l0_1.toInt ≤ (-100) → x1.toInt = -((-l0_1.toInt) / 100) → x2.toInt = x1.toInt * 100 → x3.toInt = x2.toInt - l0_1.toInt → x4.toInt = l5_1.toInt + (-1) → x5 = dg_O x3.toNatClampNeg → x6 = upd a2_v_1 x4.toNatClampNeg (vp_nar .byte x5) → x7.toInt = x4.toInt + (-1) → x8 = dg_T x3.toNatClampNeg → x9 = upd x6 x7.toNatClampNeg (vp_nar .byte x8) → R x1 x7 x9 k e1 e2 e3 → R l0_1 l5_1 a2_v_1 k e1 e2 e3) →
  R s1 s2 s3 k e1 e2 e3
/- tl_RInteger_getChars_22_2: l5, l0, a2_v; out: l5, l0, a2_v -/
def tl_RInteger_getChars_22_2 (s1 : Int32) (s2 : Int32) (s3 : Nat → Int32) (k : Nat) (e1 : Int32) (e2 : Int32) (e3 : Nat → Int32) : Prop := ∀ R : (Int32) → (Int32) → (Nat → Int32) → Nat → (Int32) → (Int32) → (Nat → Int32) → Prop,
  (∀ (l5_1 : Int32) (l0_1 : Int32) (a2_v_1 : Nat → Int32), gB l5_1 0 16777216 → gB l0_1 (-2147483648) (-1) → (-100) < l0_1.toInt → R l5_1 l0_1 a2_v_1 72 l5_1 l0_1 a2_v_1) →
  (∀ (l5_1 : Int32) (l0_1 : Int32) (a2_v_1 : Nat → Int32) (x1 : Int32) (x2 : Int32) (x3 : Int32) (x4 : Int32) (x5 : Int32) (x6 : Nat → Int32) (x7 : Int32) (x8 : Int32) (x9 : Nat → Int32) (k : Nat) (e1 : Int32) (e2 : Int32) (e3 : Nat → Int32), gB l5_1 0 16777216 → gB l0_1 (-2147483648) (-1) → l0_1.toInt ≤ (-100) → x1.toInt = -((-l0_1.toInt) / 100) → x2.toInt = x1.toInt * 100 → x3.toInt = x2.toInt - l0_1.toInt → x4.toInt = l5_1.toInt + (-1) → x5 = dg_O x3.toNatClampNeg → x6 = upd a2_v_1 x4.toNatClampNeg (vp_nar .byte x5) → x7.toInt = x4.toInt + (-1) → x8 = dg_T x3.toNatClampNeg → x9 = upd x6 x7.toNatClampNeg (vp_nar .byte x8) → R x7 x1 x9 k e1 e2 e3 → R l5_1 l0_1 a2_v_1 k e1 e2 e3) →
  R s1 s2 s3 k e1 e2 e3
/- tr_RInteger_getChars: result, a.2.[] -/
def tr_RInteger_getChars (a0 : Int32) (a1 : Int32) (a2_v : Nat → Int32) (o1 : Int32) (o2 : Nat → Int32) : Prop := ∀ R : (Int32) → (Nat → Int32) → Prop,
  (∀ (x1 : Int32) (x2 : Int32) (x3 : Int32) (x4 : Nat → Int32) (x5 : Int32) (x6 : Int32) (x7 : Int32) (x8 : Nat → Int32), 0 ≤ a0.toInt → x1 = -a0 → tl_RInteger_getChars_22 x1 a1 a2_v 72 x2 x3 x4 → x5.toInt = x3.toInt + (-1) → x6 = -x2 → x7 = dg_O x6.toNatClampNeg → x8 = upd x4 x5.toNatClampNeg (vp_nar .byte x7) → (-9) ≤ x2.toInt → R x5 x8) →
  (∀ (x1 : Int32) (x2 : Int32) (x3 : Int32) (x4 : Nat → Int32) (x5 : Int32) (x6 : Int32) (x7 : Int32) (x8 : Nat → Int32) (x9 : Int32) (x10 : Int32) (x11 : Int32) (x12 : Nat → Int32), 0 ≤ a0.toInt → x1 = -a0 → tl_RInteger_getChars_22 x1 a1 a2_v 72 x2 x3 x4 → x5.toInt = x3.toInt + (-1) → x6 = -x2 → x7 = dg_O x6.toNatClampNeg → x8 = upd x4 x5.toNatClampNeg (vp_nar .byte x7) → x2.toInt < (-9) → x9.toInt = x5.toInt + (-1) → x10 = -x2 → x11 = dg_T x10.toNatClampNeg → x12 = upd x8 x9.toNatClampNeg (vp_nar .byte x11) → R x9 x12) →
  (∀ (x1 : Int32) (x2 : Int32) (x3 : Nat → Int32) (x4 : Int32) (x5 : Int32) (x6 : Int32) (x7 : Nat → Int32) (x8 : Int32) (x9 : Nat → Int32), a0.toInt < 0 → tl_RInteger_getChars_22_2 a1 a0 a2_v 72 x1 x2 x3 → x4.toInt = x1.toInt + (-1) → x5 = -x2 → x6 = dg_O x5.toNatClampNeg → x7 = upd x3 x4.toNatClampNeg (vp_nar .byte x6) → (-9) ≤ x2.toInt → x8.toInt = x4.toInt + (-1) → x9 = upd x7 x8.toNatClampNeg (vp_nar .byte 45) → R x8 x9) →
  (∀ (x1 : Int32) (x2 : Int32) (x3 : Nat → Int32) (x4 : Int32) (x5 : Int32) (x6 : Int32) (x7 : Nat → Int32) (x8 : Int32) (x9 : Int32) (x10 : Int32) (x11 : Nat → Int32) (x12 : Int32) (x13 : Nat → Int32), a0.toInt < 0 → tl_RInteger_getChars_22_2 a1 a0 a2_v 72 x1 x2 x3 → x4.toInt = x1.toInt + (-1) → x5 = -x2 → x6 = dg_O x5.toNatClampNeg → x7 = upd x3 x4.toNatClampNeg (vp_nar .byte x6) → x2.toInt < (-9) → x8.toInt = x4.toInt + (-1) → x9 = -x2 → x10 = dg_T x9.toNatClampNeg → x11 = upd x7 x8.toNatClampNeg (vp_nar .byte x10) → x12.toInt = x8.toInt + (-1) → x13 = upd x11 x12.toNatClampNeg (vp_nar .byte 45) → R x12 x13) →
  R o1 o2
