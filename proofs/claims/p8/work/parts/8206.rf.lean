theorem dr_cJ1_indexOf_b82b6_0 : decode cJ1_indexOf_b82b6 0 = .ok (.aload_n 1, 1) := by decide +kernel
theorem dr_cJ1_indexOf_b82b6_1 : decode cJ1_indexOf_b82b6 1 = .ok (.arraylength, 1) := by decide +kernel
theorem dr_cJ1_indexOf_b82b6_2 : decode cJ1_indexOf_b82b6 2 = .ok (.ifCond .ne 5, 3) := by decide +kernel
theorem dr_cJ1_indexOf_b82b6_7 : decode cJ1_indexOf_b82b6 7 = .ok (.aload_n 0, 1) := by decide +kernel
theorem dr_cJ1_indexOf_b82b6_8 : decode cJ1_indexOf_b82b6 8 = .ok (.arraylength, 1) := by decide +kernel
theorem dr_cJ1_indexOf_b82b6_9 : decode cJ1_indexOf_b82b6 9 = .ok (.ifCond .ne 5, 3) := by decide +kernel
theorem dr_cJ1_indexOf_b82b6_14 : decode cJ1_indexOf_b82b6 14 = .ok (.aload_n 0, 1) := by decide +kernel
theorem dr_cJ1_indexOf_b82b6_15 : decode cJ1_indexOf_b82b6 15 = .ok (.aload_n 0, 1) := by decide +kernel
theorem dr_cJ1_indexOf_b82b6_16 : decode cJ1_indexOf_b82b6 16 = .ok (.arraylength, 1) := by decide +kernel
theorem dr_cJ1_indexOf_b82b6_17 : decode cJ1_indexOf_b82b6 17 = .ok (.aload_n 1, 1) := by decide +kernel
theorem dr_cJ1_indexOf_b82b6_18 : decode cJ1_indexOf_b82b6 18 = .ok (.aload_n 1, 1) := by decide +kernel
theorem dr_cJ1_indexOf_b82b6_19 : decode cJ1_indexOf_b82b6 19 = .ok (.arraylength, 1) := by decide +kernel
theorem dr_cJ1_indexOf_b82b6_20 : decode cJ1_indexOf_b82b6 20 = .ok (.iconst 0, 1) := by decide +kernel
theorem dr_cJ1_indexOf_b82b6_21 : decode cJ1_indexOf_b82b6 21 = .ok (.invokestatic 99, 3) := by decide +kernel
theorem wr_8_203 : (Jvm.Cond.methodLink "java/lang/StringLatin1" (99 : Nat) ({ cls := "java/lang/StringLatin1", name := "indexOf", desc := "([BI[BII)I" } : Jvm.MethodName)) ∈ gw := gw_8 203 rfl rfl
theorem wr_8_205 : (Jvm.Cond.code ({ cls := "java/lang/StringLatin1", name := "indexOf", desc := "([BI[BII)I" } : Jvm.MethodName) prog_37_method_25_code (11 : Nat) (Option.some Jvm.ClassFile.FieldType.int)) ∈ gw := gw_8 205 rfl rfl
theorem wr_8_204 : (Jvm.Cond.static ({ cls := "java/lang/StringLatin1", name := "indexOf", desc := "([BI[BII)I" } : Jvm.MethodName)) ∈ gw := gw_8 204 rfl rfl
theorem dr_cJ1_indexOf_b82b6_24 : decode cJ1_indexOf_b82b6 24 = .ok (.ireturn, 1) := by decide +kernel
theorem dr_cJ1_indexOf_b82b6_12 : decode cJ1_indexOf_b82b6 12 = .ok (.iconst (-1), 1) := by decide +kernel
theorem dr_cJ1_indexOf_b82b6_13 : decode cJ1_indexOf_b82b6 13 = .ok (.ireturn, 1) := by decide +kernel
theorem dr_cJ0_indexOf_2f485_0 : decode cJ0_indexOf_2f485 0 = .ok (.aload_n 0, 1) := by decide +kernel
theorem dr_cJ0_indexOf_2f485_1 : decode cJ0_indexOf_2f485 1 = .ok (.invokevirtual 335, 3) := by decide +kernel
theorem dr_cJ0_indexOf_2f485_4 : decode cJ0_indexOf_2f485 4 = .ok (.istore_n 2, 1) := by decide +kernel
theorem dr_cJ0_indexOf_2f485_5 : decode cJ0_indexOf_2f485 5 = .ok (.iload_n 2, 1) := by decide +kernel
theorem dr_cJ0_indexOf_2f485_6 : decode cJ0_indexOf_2f485 6 = .ok (.aload_n 1, 1) := by decide +kernel
theorem dr_cJ0_indexOf_2f485_7 : decode cJ0_indexOf_2f485 7 = .ok (.invokevirtual 335, 3) := by decide +kernel
theorem dr_cJ0_indexOf_2f485_10 : decode cJ0_indexOf_2f485 10 = .ok (.if_icmp .ne 36, 3) := by decide +kernel
theorem dr_cJ0_indexOf_2f485_13 : decode cJ0_indexOf_2f485 13 = .ok (.aload_n 0, 1) := by decide +kernel
theorem dr_cJ0_indexOf_2f485_14 : decode cJ0_indexOf_2f485 14 = .ok (.invokevirtual 492, 3) := by decide +kernel
theorem dr_cJ0_indexOf_2f485_17 : decode cJ0_indexOf_2f485 17 = .ok (.ifCond .eq 17, 3) := by decide +kernel
theorem dr_cJ0_indexOf_2f485_20 : decode cJ0_indexOf_2f485 20 = .ok (.aload_n 0, 1) := by decide +kernel
theorem dr_cJ0_indexOf_2f485_21 : decode cJ0_indexOf_2f485 21 = .ok (.getfield 9, 3) := by decide +kernel
theorem dr_cJ0_indexOf_2f485_24 : decode cJ0_indexOf_2f485 24 = .ok (.aload_n 1, 1) := by decide +kernel
theorem dr_cJ0_indexOf_2f485_25 : decode cJ0_indexOf_2f485 25 = .ok (.getfield 9, 3) := by decide +kernel
theorem dr_cJ0_indexOf_2f485_28 : decode cJ0_indexOf_2f485 28 = .ok (.invokestatic 647, 3) := by decide +kernel
theorem wr_8_200 : (Jvm.Cond.methodLink "java/lang/String" (647 : Nat) ({ cls := "java/lang/StringLatin1", name := "indexOf", desc := "([B[B)I" } : Jvm.MethodName)) ∈ gw := gw_8 200 rfl rfl
theorem wr_8_202 : (Jvm.Cond.code ({ cls := "java/lang/StringLatin1", name := "indexOf", desc := "([B[B)I" } : Jvm.MethodName) prog_37_method_24_code (2 : Nat) (Option.some Jvm.ClassFile.FieldType.int)) ∈ gw := gw_8 202 rfl rfl
theorem wr_8_201 : (Jvm.Cond.static ({ cls := "java/lang/StringLatin1", name := "indexOf", desc := "([B[B)I" } : Jvm.MethodName)) ∈ gw := gw_8 201 rfl rfl
theorem dr_cJ0_indexOf_2f485_31 : decode cJ0_indexOf_2f485 31 = .ok (.goto 14, 3) := by decide +kernel
theorem dr_cJ0_indexOf_2f485_45 : decode cJ0_indexOf_2f485 45 = .ok (.ireturn, 1) := by decide +kernel
theorem dr_cJ1_canEncode_9a6ad_0 : decode cJ1_canEncode_9a6ad 0 = .ok (.iload_n 0, 1) := by decide +kernel
theorem dr_cJ1_canEncode_9a6ad_1 : decode cJ1_canEncode_9a6ad 1 = .ok (.ifCond .lt 14, 3) := by decide +kernel
theorem dr_cJ1_canEncode_9a6ad_15 : decode cJ1_canEncode_9a6ad 15 = .ok (.iconst 0, 1) := by decide +kernel
theorem dr_cJ1_canEncode_9a6ad_16 : decode cJ1_canEncode_9a6ad 16 = .ok (.ireturn, 1) := by decide +kernel
theorem dr_cJ1_canEncode_9a6ad_4 : decode cJ1_canEncode_9a6ad 4 = .ok (.iload_n 0, 1) := by decide +kernel
theorem dr_cJ1_canEncode_9a6ad_5 : decode cJ1_canEncode_9a6ad 5 = .ok (.sipush 255, 3) := by decide +kernel
theorem dr_cJ1_canEncode_9a6ad_8 : decode cJ1_canEncode_9a6ad 8 = .ok (.if_icmp .gt 7, 3) := by decide +kernel
theorem dr_cJ1_canEncode_9a6ad_11 : decode cJ1_canEncode_9a6ad 11 = .ok (.iconst 1, 1) := by decide +kernel
theorem dr_cJ1_canEncode_9a6ad_12 : decode cJ1_canEncode_9a6ad 12 = .ok (.goto 4, 3) := by decide +kernel
theorem dr_cJ1_indexOfChar_4cfef_0 : decode cJ1_indexOfChar_4cfef 0 = .ok (.iload_n 1, 1) := by decide +kernel
theorem dr_cJ1_indexOfChar_4cfef_1 : decode cJ1_indexOfChar_4cfef 1 = .ok (.i2b, 1) := by decide +kernel
theorem dr_cJ1_indexOfChar_4cfef_2 : decode cJ1_indexOfChar_4cfef 2 = .ok (.istore 4, 2) := by decide +kernel
theorem dr_cJ1_indexOfChar_4cfef_4 : decode cJ1_indexOfChar_4cfef 4 = .ok (.iload_n 2, 1) := by decide +kernel
theorem dr_cJ1_indexOfChar_4cfef_5 : decode cJ1_indexOfChar_4cfef 5 = .ok (.istore 5, 2) := by decide +kernel
theorem dr_cJ1_indexOfChar_4cfef_7 : decode cJ1_indexOfChar_4cfef 7 = .ok (.iload 5, 2) := by decide +kernel
theorem dr_cJ1_indexOfChar_4cfef_9 : decode cJ1_indexOfChar_4cfef 9 = .ok (.iload_n 3, 1) := by decide +kernel
theorem dr_cJ1_indexOfChar_4cfef_10 : decode cJ1_indexOfChar_4cfef 10 = .ok (.if_icmp .ge 21, 3) := by decide +kernel
theorem dr_cJ1_indexOfChar_4cfef_31 : decode cJ1_indexOfChar_4cfef 31 = .ok (.iconst (-1), 1) := by decide +kernel
theorem dr_cJ1_indexOfChar_4cfef_32 : decode cJ1_indexOfChar_4cfef 32 = .ok (.ireturn, 1) := by decide +kernel
theorem dr_cJ1_indexOfChar_4cfef_13 : decode cJ1_indexOfChar_4cfef 13 = .ok (.aload_n 0, 1) := by decide +kernel
theorem dr_cJ1_indexOfChar_4cfef_14 : decode cJ1_indexOfChar_4cfef 14 = .ok (.iload 5, 2) := by decide +kernel
theorem dr_cJ1_indexOfChar_4cfef_16 : decode cJ1_indexOfChar_4cfef 16 = .ok (.baload, 1) := by decide +kernel
theorem dr_cJ1_indexOfChar_4cfef_17 : decode cJ1_indexOfChar_4cfef 17 = .ok (.iload 4, 2) := by decide +kernel
theorem dr_cJ1_indexOfChar_4cfef_19 : decode cJ1_indexOfChar_4cfef 19 = .ok (.if_icmp .ne 6, 3) := by decide +kernel
theorem dr_cJ1_indexOfChar_4cfef_25 : decode cJ1_indexOfChar_4cfef 25 = .ok (.iinc 5 1, 3) := by decide +kernel
theorem dr_cJ1_indexOfChar_4cfef_28 : decode cJ1_indexOfChar_4cfef 28 = .ok (.goto (-21), 3) := by decide +kernel
theorem dr_cJ1_indexOfChar_4cfef_22 : decode cJ1_indexOfChar_4cfef 22 = .ok (.iload 5, 2) := by decide +kernel
theorem dr_cJ1_indexOfChar_4cfef_24 : decode cJ1_indexOfChar_4cfef 24 = .ok (.ireturn, 1) := by decide +kernel
theorem dr_cJ1_indexOf_4cfef_0 : decode cJ1_indexOf_4cfef 0 = .ok (.iload_n 1, 1) := by decide +kernel
theorem dr_cJ1_indexOf_4cfef_1 : decode cJ1_indexOf_4cfef 1 = .ok (.invokestatic 88, 3) := by decide +kernel
theorem wr_9_2 : (Jvm.Cond.methodLink "java/lang/StringLatin1" (88 : Nat) ({ cls := "java/lang/StringLatin1", name := "canEncode", desc := "(I)Z" } : Jvm.MethodName)) ∈ gw := gw_9 2 rfl rfl
theorem wr_9_4 : (Jvm.Cond.code ({ cls := "java/lang/StringLatin1", name := "canEncode", desc := "(I)Z" } : Jvm.MethodName) prog_37_method_4_code (1 : Nat) (Option.some Jvm.ClassFile.FieldType.boolean)) ∈ gw := gw_9 4 rfl rfl
theorem wr_9_3 : (Jvm.Cond.static ({ cls := "java/lang/StringLatin1", name := "canEncode", desc := "(I)Z" } : Jvm.MethodName)) ∈ gw := gw_9 3 rfl rfl
theorem dr_cJ1_indexOf_4cfef_4 : decode cJ1_indexOf_4cfef 4 = .ok (.ifCond .ne 5, 3) := by decide +kernel
theorem dr_cJ1_indexOf_4cfef_7 : decode cJ1_indexOf_4cfef 7 = .ok (.iconst (-1), 1) := by decide +kernel
theorem dr_cJ1_indexOf_4cfef_8 : decode cJ1_indexOf_4cfef 8 = .ok (.ireturn, 1) := by decide +kernel
theorem dr_cJ1_indexOf_4cfef_9 : decode cJ1_indexOf_4cfef 9 = .ok (.iload_n 2, 1) := by decide +kernel
theorem dr_cJ1_indexOf_4cfef_10 : decode cJ1_indexOf_4cfef 10 = .ok (.iconst 0, 1) := by decide +kernel
theorem dr_cJ1_indexOf_4cfef_11 : decode cJ1_indexOf_4cfef 11 = .ok (.invokestatic 92, 3) := by decide +kernel
theorem wr_9_5 : (Jvm.Cond.methodLink "java/lang/StringLatin1" (92 : Nat) ({ cls := "java/lang/Math", name := "max", desc := "(II)I" } : Jvm.MethodName)) ∈ gw := gw_9 5 rfl rfl
theorem dr_cJ1_indexOf_4cfef_14 : decode cJ1_indexOf_4cfef 14 = .ok (.istore_n 2, 1) := by decide +kernel
theorem dr_cJ1_indexOf_4cfef_15 : decode cJ1_indexOf_4cfef 15 = .ok (.iload_n 3, 1) := by decide +kernel
theorem dr_cJ1_indexOf_4cfef_16 : decode cJ1_indexOf_4cfef 16 = .ok (.aload_n 0, 1) := by decide +kernel
theorem dr_cJ1_indexOf_4cfef_17 : decode cJ1_indexOf_4cfef 17 = .ok (.arraylength, 1) := by decide +kernel
theorem dr_cJ1_indexOf_4cfef_18 : decode cJ1_indexOf_4cfef 18 = .ok (.invokestatic 38, 3) := by decide +kernel
theorem wr_9_6 : (Jvm.Cond.methodLink "java/lang/StringLatin1" (38 : Nat) ({ cls := "java/lang/Math", name := "min", desc := "(II)I" } : Jvm.MethodName)) ∈ gw := gw_9 6 rfl rfl
theorem dr_cJ1_indexOf_4cfef_21 : decode cJ1_indexOf_4cfef 21 = .ok (.istore_n 3, 1) := by decide +kernel
theorem dr_cJ1_indexOf_4cfef_22 : decode cJ1_indexOf_4cfef 22 = .ok (.iload_n 2, 1) := by decide +kernel
theorem dr_cJ1_indexOf_4cfef_23 : decode cJ1_indexOf_4cfef 23 = .ok (.iload_n 3, 1) := by decide +kernel
theorem dr_cJ1_indexOf_4cfef_24 : decode cJ1_indexOf_4cfef 24 = .ok (.if_icmp .lt 5, 3) := by decide +kernel
theorem dr_cJ1_indexOf_4cfef_29 : decode cJ1_indexOf_4cfef 29 = .ok (.aload_n 0, 1) := by decide +kernel
theorem dr_cJ1_indexOf_4cfef_30 : decode cJ1_indexOf_4cfef 30 = .ok (.iload_n 1, 1) := by decide +kernel
theorem dr_cJ1_indexOf_4cfef_31 : decode cJ1_indexOf_4cfef 31 = .ok (.iload_n 2, 1) := by decide +kernel
theorem dr_cJ1_indexOf_4cfef_32 : decode cJ1_indexOf_4cfef 32 = .ok (.iload_n 3, 1) := by decide +kernel
theorem dr_cJ1_indexOf_4cfef_33 : decode cJ1_indexOf_4cfef 33 = .ok (.invokestatic 95, 3) := by decide +kernel
theorem wr_9_7 : (Jvm.Cond.methodLink "java/lang/StringLatin1" (95 : Nat) ({ cls := "java/lang/StringLatin1", name := "indexOfChar", desc := "([BIII)I" } : Jvm.MethodName)) ∈ gw := gw_9 7 rfl rfl
theorem wr_9_9 : (Jvm.Cond.code ({ cls := "java/lang/StringLatin1", name := "indexOfChar", desc := "([BIII)I" } : Jvm.MethodName) prog_37_method_23_code (6 : Nat) (Option.some Jvm.ClassFile.FieldType.int)) ∈ gw := gw_9 9 rfl rfl
theorem wr_9_8 : (Jvm.Cond.static ({ cls := "java/lang/StringLatin1", name := "indexOfChar", desc := "([BIII)I" } : Jvm.MethodName)) ∈ gw := gw_9 8 rfl rfl
theorem dr_cJ1_indexOf_4cfef_36 : decode cJ1_indexOf_4cfef 36 = .ok (.ireturn, 1) := by decide +kernel
theorem dr_cJ1_indexOf_4cfef_27 : decode cJ1_indexOf_4cfef 27 = .ok (.iconst (-1), 1) := by decide +kernel
theorem dr_cJ1_indexOf_4cfef_28 : decode cJ1_indexOf_4cfef 28 = .ok (.ireturn, 1) := by decide +kernel
theorem dr_cJ0_indexOf_7cf53_0 : decode cJ0_indexOf_7cf53 0 = .ok (.aload_n 0, 1) := by decide +kernel
theorem dr_cJ0_indexOf_7cf53_1 : decode cJ0_indexOf_7cf53 1 = .ok (.invokevirtual 492, 3) := by decide +kernel
theorem dr_cJ0_indexOf_7cf53_4 : decode cJ0_indexOf_7cf53 4 = .ok (.ifCond .eq 19, 3) := by decide +kernel
theorem dr_cJ0_indexOf_7cf53_7 : decode cJ0_indexOf_7cf53 7 = .ok (.aload_n 0, 1) := by decide +kernel
theorem dr_cJ0_indexOf_7cf53_8 : decode cJ0_indexOf_7cf53 8 = .ok (.getfield 9, 3) := by decide +kernel
theorem dr_cJ0_indexOf_7cf53_11 : decode cJ0_indexOf_7cf53 11 = .ok (.iload_n 1, 1) := by decide +kernel
theorem dr_cJ0_indexOf_7cf53_12 : decode cJ0_indexOf_7cf53 12 = .ok (.iload_n 2, 1) := by decide +kernel
theorem dr_cJ0_indexOf_7cf53_13 : decode cJ0_indexOf_7cf53 13 = .ok (.aload_n 0, 1) := by decide +kernel
theorem dr_cJ0_indexOf_7cf53_14 : decode cJ0_indexOf_7cf53 14 = .ok (.invokevirtual 505, 3) := by decide +kernel
theorem wr_8_238 : (Jvm.Cond.methodLink "java/lang/String" (505 : Nat) ({ cls := "java/lang/String", name := "length", desc := "()I" } : Jvm.MethodName)) ∈ gw := gw_8 238 rfl rfl
theorem dr_cJ0_indexOf_7cf53_17 : decode cJ0_indexOf_7cf53 17 = .ok (.invokestatic 637, 3) := by decide +kernel
theorem wr_8_239 : (Jvm.Cond.methodLink "java/lang/String" (637 : Nat) ({ cls := "java/lang/StringLatin1", name := "indexOf", desc := "([BIII)I" } : Jvm.MethodName)) ∈ gw := gw_8 239 rfl rfl
theorem wr_9_1 : (Jvm.Cond.code ({ cls := "java/lang/StringLatin1", name := "indexOf", desc := "([BIII)I" } : Jvm.MethodName) prog_37_method_22_code (4 : Nat) (Option.some Jvm.ClassFile.FieldType.int)) ∈ gw := gw_9 1 rfl rfl
theorem wr_9_0 : (Jvm.Cond.static ({ cls := "java/lang/StringLatin1", name := "indexOf", desc := "([BIII)I" } : Jvm.MethodName)) ∈ gw := gw_9 0 rfl rfl
theorem dr_cJ0_indexOf_7cf53_20 : decode cJ0_indexOf_7cf53 20 = .ok (.goto 16, 3) := by decide +kernel
theorem dr_cJ0_indexOf_7cf53_36 : decode cJ0_indexOf_7cf53 36 = .ok (.ireturn, 1) := by decide +kernel
theorem dr_cJ0_indexOf_0f7a4_0 : decode cJ0_indexOf_0f7a4 0 = .ok (.aload_n 0, 1) := by decide +kernel
theorem dr_cJ0_indexOf_0f7a4_1 : decode cJ0_indexOf_0f7a4 1 = .ok (.iload_n 1, 1) := by decide +kernel
theorem dr_cJ0_indexOf_0f7a4_2 : decode cJ0_indexOf_0f7a4 2 = .ok (.iconst 0, 1) := by decide +kernel
theorem dr_cJ0_indexOf_0f7a4_3 : decode cJ0_indexOf_0f7a4 3 = .ok (.invokevirtual 633, 3) := by decide +kernel
theorem wr_8_234 : (Jvm.Cond.methodLink "java/lang/String" (633 : Nat) ({ cls := "java/lang/String", name := "indexOf", desc := "(II)I" } : Jvm.MethodName)) ∈ gw := gw_8 234 rfl rfl
theorem wr_8_237 : (Jvm.Cond.code ({ cls := "java/lang/String", name := "indexOf", desc := "(II)I" } : Jvm.MethodName) prog_34_method_80_code (3 : Nat) (Option.some Jvm.ClassFile.FieldType.int)) ∈ gw := gw_8 237 rfl rfl
theorem wr_8_235 : (Jvm.Cond.instanceMethod ({ cls := "java/lang/String", name := "indexOf", desc := "(II)I" } : Jvm.MethodName)) ∈ gw := gw_8 235 rfl rfl
theorem wr_8_236 : (Jvm.Cond.selects "java/lang/String" ({ cls := "java/lang/String", name := "indexOf", desc := "(II)I" } : Jvm.MethodName) ({ cls := "java/lang/String", name := "indexOf", desc := "(II)I" } : Jvm.MethodName)) ∈ gw := gw_8 236 rfl rfl
theorem dr_cJ0_indexOf_0f7a4_6 : decode cJ0_indexOf_0f7a4 6 = .ok (.ireturn, 1) := by decide +kernel
theorem dr_cJ6_stringSize_0f7a4_0 : decode cJ6_stringSize_0f7a4 0 = .ok (.iconst 1, 1) := by decide +kernel
theorem dr_cJ6_stringSize_0f7a4_1 : decode cJ6_stringSize_0f7a4 1 = .ok (.istore_n 1, 1) := by decide +kernel
theorem dr_cJ6_stringSize_0f7a4_2 : decode cJ6_stringSize_0f7a4 2 = .ok (.iload_n 0, 1) := by decide +kernel
theorem dr_cJ6_stringSize_0f7a4_3 : decode cJ6_stringSize_0f7a4 3 = .ok (.ifCond .lt 8, 3) := by decide +kernel
theorem dr_cJ6_stringSize_0f7a4_11 : decode cJ6_stringSize_0f7a4 11 = .ok (.bipush (-10), 2) := by decide +kernel
theorem dr_cJ6_stringSize_0f7a4_13 : decode cJ6_stringSize_0f7a4 13 = .ok (.istore_n 2, 1) := by decide +kernel
theorem dr_cJ6_stringSize_0f7a4_14 : decode cJ6_stringSize_0f7a4 14 = .ok (.iconst 1, 1) := by decide +kernel
theorem dr_cJ6_stringSize_0f7a4_15 : decode cJ6_stringSize_0f7a4 15 = .ok (.istore_n 3, 1) := by decide +kernel
theorem dr_cJ6_stringSize_0f7a4_16 : decode cJ6_stringSize_0f7a4 16 = .ok (.iload_n 3, 1) := by decide +kernel
theorem dr_cJ6_stringSize_0f7a4_17 : decode cJ6_stringSize_0f7a4 17 = .ok (.bipush 10, 2) := by decide +kernel
theorem dr_cJ6_stringSize_0f7a4_19 : decode cJ6_stringSize_0f7a4 19 = .ok (.if_icmp .ge 23, 3) := by decide +kernel
theorem dr_cJ6_stringSize_0f7a4_42 : decode cJ6_stringSize_0f7a4 42 = .ok (.bipush 10, 2) := by decide +kernel
theorem dr_cJ6_stringSize_0f7a4_44 : decode cJ6_stringSize_0f7a4 44 = .ok (.iload_n 1, 1) := by decide +kernel
theorem dr_cJ6_stringSize_0f7a4_45 : decode cJ6_stringSize_0f7a4 45 = .ok (.iadd, 1) := by decide +kernel
theorem dr_cJ6_stringSize_0f7a4_46 : decode cJ6_stringSize_0f7a4 46 = .ok (.ireturn, 1) := by decide +kernel
theorem dr_cJ6_stringSize_0f7a4_22 : decode cJ6_stringSize_0f7a4 22 = .ok (.iload_n 0, 1) := by decide +kernel
theorem dr_cJ6_stringSize_0f7a4_23 : decode cJ6_stringSize_0f7a4 23 = .ok (.iload_n 2, 1) := by decide +kernel
theorem dr_cJ6_stringSize_0f7a4_24 : decode cJ6_stringSize_0f7a4 24 = .ok (.if_icmp .le 7, 3) := by decide +kernel
theorem dr_cJ6_stringSize_0f7a4_31 : decode cJ6_stringSize_0f7a4 31 = .ok (.bipush 10, 2) := by decide +kernel
theorem dr_cJ6_stringSize_0f7a4_33 : decode cJ6_stringSize_0f7a4 33 = .ok (.iload_n 2, 1) := by decide +kernel
theorem dr_cJ6_stringSize_0f7a4_34 : decode cJ6_stringSize_0f7a4 34 = .ok (.imul, 1) := by decide +kernel
theorem dr_cJ6_stringSize_0f7a4_35 : decode cJ6_stringSize_0f7a4 35 = .ok (.istore_n 2, 1) := by decide +kernel
theorem dr_cJ6_stringSize_0f7a4_36 : decode cJ6_stringSize_0f7a4 36 = .ok (.iinc 3 1, 3) := by decide +kernel
theorem dr_cJ6_stringSize_0f7a4_39 : decode cJ6_stringSize_0f7a4 39 = .ok (.goto (-23), 3) := by decide +kernel
theorem dr_cJ6_stringSize_0f7a4_27 : decode cJ6_stringSize_0f7a4 27 = .ok (.iload_n 3, 1) := by decide +kernel
theorem dr_cJ6_stringSize_0f7a4_28 : decode cJ6_stringSize_0f7a4 28 = .ok (.iload_n 1, 1) := by decide +kernel
theorem dr_cJ6_stringSize_0f7a4_29 : decode cJ6_stringSize_0f7a4 29 = .ok (.iadd, 1) := by decide +kernel
theorem dr_cJ6_stringSize_0f7a4_30 : decode cJ6_stringSize_0f7a4 30 = .ok (.ireturn, 1) := by decide +kernel
theorem dr_cJ6_stringSize_0f7a4_6 : decode cJ6_stringSize_0f7a4 6 = .ok (.iconst 0, 1) := by decide +kernel
theorem dr_cJ6_stringSize_0f7a4_7 : decode cJ6_stringSize_0f7a4 7 = .ok (.istore_n 1, 1) := by decide +kernel
theorem dr_cJ6_stringSize_0f7a4_8 : decode cJ6_stringSize_0f7a4 8 = .ok (.iload_n 0, 1) := by decide +kernel
theorem dr_cJ6_stringSize_0f7a4_9 : decode cJ6_stringSize_0f7a4 9 = .ok (.ineg, 1) := by decide +kernel
theorem dr_cJ6_stringSize_0f7a4_10 : decode cJ6_stringSize_0f7a4 10 = .ok (.istore_n 0, 1) := by decide +kernel
abbrev ky_659443_StringLatin1_indexOf : gKey := (cJ1_indexOf_b82b6, 2, "java/lang/StringLatin1", (some FieldType.int), [], "indexOf", fun _ _ => True)
def pp_659443_StringLatin1_indexOf (D : va_G) (I : FieldType → ClassId) (P659434 : List Nat) (F659435 : Nat → va_E) (q659436 : Nat) (qs659437 : Nat) (bs659438 : List Int32) (f659439 : Nat → Int32) (n659440 : Nat) : Option Value → va_W → Nat → Nat → Prop := fun r w dc ds => ∃ (o666476 : Int32), r = some (.int o666476) ∧ w = va_pl P659434 F659435 ∧ dc ≤ 0 ∧ ds ≤ 0 ∧ gB o666476 (-2147483646) 16777215 ∧ (o666476.toInt < 0 ∨ o666476.toInt + (n659440 : Int) ≤ (bs659438.length : Int)) ∧ ixP (fun j => bs659438.getD j 0) f659439 o666476 ∧ tr_RStringLatin1_indexOf bs659438 f659439 n659440 o666476
set_option maxRecDepth 100000 in
set_option maxHeartbeats 4000000 in
theorem cp_659443_StringLatin1_indexOf (l : Launch) (hl0 : l.stackTraces = false) (D : va_G) (I : FieldType → ClassId) (P659434 : List Nat) (F659435 : Nat → va_E) (q659436 : Nat) (qs659437 : Nat) (bs659438 : List Int32) (f659439 : Nat → Int32) (n659440 : Nat) (hmq659436 : q659436 ∈ P659434) (heq659436 : F659435 q659436 = .inl (I .byte, n659440, .inl f659439)) (hbs659438 : ∀ A s H, (gV D I).2.2.2.1 A s H → va_T .byte qs659437 bs659438.length (fun j => .int (bs659438.getD j 0)) A s H) (nbs659438 : (bs659438.length : Int) ≤ 65535) (lbs659438 : gLB bs659438) (bf659439 : gF f659439 (-128) 127) (x659441 : 1 ≤ (n659440 : Int)) (x659442 : ((n659440 : Int) ≤ 16777216)) : CtA (gV D I) l yJ1_indexOf_b82b6 cJ1_indexOf_b82b6 2 (some FieldType.int) 1 30 0 0 [.ref qs659437, .ref q659436] (va_pl P659434 F659435) (pp_659443_StringLatin1_indexOf D I P659434 F659435 q659436 qs659437 bs659438 f659439 n659440) gNA := by
  refine CtA_ofF hl0 (by decide +kernel) (Nat.le_of_ble_eq_true rfl) ?_
  refine G_aload_n 1 dr_cJ1_indexOf_b82b6_0 rfl ?_
  refine Gp_alen (Int32.ofNat n659440) 1 hmq659436 heq659436 dr_cJ1_indexOf_b82b6_1 rfl rfl (G_nam fun z659444 hz659444 => ?_)
  have ez659444 : z659444.toInt = (n659440 : Nat) := gI_ofM hz659444 (by omega)
  have bz659444 : gB z659444 0 16777216 := ⟨by omega, by omega⟩
  refine G_if_ne 7 dr_cJ1_indexOf_b82b6_2 (by decide +kernel) (fun hc659445 => ?_) (fun hc => absurd (show False by have := gj_eq hc (show Int32.toInt 0 = 0 by decide); omega) not_false)
  have r659447 : z659444.toInt ≠ 0 := gj_neq hc659445 (show Int32.toInt 0 = 0 by decide)
  have bz659444' : gB z659444 1 16777216 := ⟨by omega, by omega⟩
  refine G_aload_n 0 dr_cJ1_indexOf_b82b6_7 rfl ?_
  refine G_klen dr_cJ1_indexOf_b82b6_8 hbs659438 (G_nam fun z659448 hz659448 => ?_)
  have ez659448 : z659448.toInt = (bs659438.length : Int) := gI_ofN hz659448 nbs659438
  have bz659448 : gB z659448 0 65535 := ⟨by omega, by omega⟩
  refine G_if_ne 14 dr_cJ1_indexOf_b82b6_9 (by decide +kernel) (fun hc659449 => ?_) (fun hc659449 => ?_)
  · have r659450 : z659448.toInt ≠ 0 := gj_neq hc659449 (show Int32.toInt 0 = 0 by decide)
    have bz659448' : gB z659448 1 65535 := ⟨by omega, by omega⟩
    refine G_aload_n 0 dr_cJ1_indexOf_b82b6_14 rfl ?_
    refine G_aload_n 0 dr_cJ1_indexOf_b82b6_15 rfl ?_
    refine G_klen dr_cJ1_indexOf_b82b6_16 hbs659438 (G_nam fun z659451 hz659451 => ?_)
    have ez659451 : z659451.toInt = (bs659438.length : Int) := gI_ofN hz659451 nbs659438
    have bz659451 : gB z659451 0 65535 := ⟨by omega, by omega⟩
    refine G_aload_n 1 dr_cJ1_indexOf_b82b6_17 rfl ?_
    refine G_aload_n 1 dr_cJ1_indexOf_b82b6_18 rfl ?_
    refine Gp_alen (Int32.ofNat n659440) 1 hmq659436 heq659436 dr_cJ1_indexOf_b82b6_19 rfl rfl (G_nam fun z659452 hz659452 => ?_)
    have ez659452 : z659452.toInt = (n659440 : Nat) := gI_ofM hz659452 (by omega)
    have bz659452 : gB z659452 0 16777216 := ⟨by omega, by omega⟩
    refine G_iconst 0 dr_cJ1_indexOf_b82b6_20 (by decide +kernel) ?_
    refine Gw_callS (As := [.ref qs659437, .int z659451, .ref q659436, .int z659452, .int 0]) (gV_ok D I) (cp_659465_StringLatin1_indexOf l hl0 D I P659434 F659435 q659436 qs659437 bs659438 z659451 z659452 f659439 n659440 hmq659436 heq659436 hbs659438 nbs659438 lbs659438 (gB_w bz659451 (by decide) (by decide)) ⟨by omega, by omega⟩ bf659439 (by omega) (by omega) (by omega)) dr_cJ1_indexOf_b82b6_21 ⟨wr_8_203, wr_1_28, wr_8_205, by decide, rfl, (Nat.le_of_ble_eq_true rfl), (Nat.le_of_ble_eq_true rfl)⟩ wr_8_204 (show 0 + 0 ≤ 0 by first | omega | decide) (show 0 + 0 ≤ 0 by first | omega | decide) (Nat.le_of_ble_eq_true rfl) (fun r666469 w666470 dc666466 ds666467 hp666468 => ?_) (fun _ _ _ _ _ z => z.elim)
    obtain ⟨o666471, rfl, rfl, hdc, hds, bo666471, x666472, x666473, ht666474⟩ := hp666468
    change G _ _ _ _ _ _ _ (.int o666471 :: _) _ _ _
    refine G_widen (cs' := 0) (sl' := 0) (by omega) (by omega) ?_
    exact G_iretA dr_cJ1_indexOf_b82b6_24 rfl (Nat.le_of_ble_eq_true rfl) (Nat.le_of_ble_eq_true rfl) ⟨o666471, rfl, rfl, (Nat.le_of_ble_eq_true rfl), (Nat.le_of_ble_eq_true rfl), bo666471, (by omega), x666473, (fun R c1 c2 => c1 z659444 z659448 z659451 z659452 o666471 ez659444 r659447 ez659448 r659450 ez659451 ez659452 bo666471 ht666474)⟩
  · have r666475 : z659448.toInt = 0 := gj_eq hc659449 (show Int32.toInt 0 = 0 by decide)
    have bz659448' : gB z659448 0 0 := ⟨by omega, by omega⟩
    refine G_iconst (-1) dr_cJ1_indexOf_b82b6_12 (by decide +kernel) ?_
    exact G_iretA dr_cJ1_indexOf_b82b6_13 rfl (Nat.le_of_ble_eq_true rfl) (Nat.le_of_ble_eq_true rfl) ⟨(-1), rfl, rfl, (Nat.le_of_ble_eq_true rfl), (Nat.le_of_ble_eq_true rfl), (gB_w (gBl (show Int32.toInt (-1) = (-1) by decide)) (by decide) (by decide)), (by have qa0 : Int32.toInt (-1) = (-1) := (by decide); omega), (ixP_n (by decide)), (fun R c1 c2 => c2 z659444 z659448 ez659444 r659447 ez659448 r666475)⟩
/- tr_RString_indexOf: result -/
def tr_RString_indexOf (bs : List Int32) (a1_value_v : Nat → Int32) (a1_value_n : Nat) (o1 : Int32) : Prop := ∀ R : (Int32) → Prop,
  (∀ (x1 : Int32), gB x1 (-2147483646) 16777215 → tr_RStringLatin1_indexOf bs a1_value_v a1_value_n x1 → R x1) →
  R o1
abbrev ky_659418_String_indexOf : gKey := (cJ0_indexOf_2f485, 3, "java/lang/String", (some FieldType.int), [], "indexOf", fun _ _ => True)
def pp_659418_String_indexOf (D : va_G) (I : FieldType → ClassId) (P659405 : List Nat) (F659406 : Nat → va_E) (q659407 : Nat) (q659408 : Nat) (qs659409 : Nat) (qb659410 : Nat) (bs659411 : List Int32) (p659412 : Int32) (p659413 : Int32) (f659414 : Nat → Int32) (n659415 : Nat) : Option Value → va_W → Nat → Nat → Prop := fun r w dc ds => ∃ (o666486 : Int32), r = some (.int o666486) ∧ w = va_pl P659405 F659406 ∧ dc ≤ 0 ∧ ds ≤ 0 ∧ gB o666486 (-2147483646) 16777215 ∧ (o666486.toInt < 0 ∨ o666486.toInt + (n659415 : Int) ≤ (bs659411.length : Int)) ∧ ixP (fun j => bs659411.getD j 0) f659414 o666486 ∧ tr_RString_indexOf bs659411 f659414 n659415 o666486
set_option maxRecDepth 100000 in
set_option maxHeartbeats 4000000 in
theorem cp_659418_String_indexOf (l : Launch) (hl0 : l.stackTraces = false) (D : va_G) (I : FieldType → ClassId) (P659405 : List Nat) (F659406 : Nat → va_E) (q659407 : Nat) (q659408 : Nat) (qs659409 : Nat) (qb659410 : Nat) (bs659411 : List Int32) (p659412 : Int32) (p659413 : Int32) (f659414 : Nat → Int32) (n659415 : Nat) (hmq659407 : q659407 ∈ P659405) (hmq659408 : q659408 ∈ P659405) (heq659407 : F659406 q659407 = .inr (0, [.ref q659408, .int 0, .int p659412, .int p659413])) (heq659408 : F659406 q659408 = .inl (I .byte, n659415, .inl f659414)) (hbs659411 : ∀ A s H, (gV D I).2.2.2.1 A s H → gSC qs659409 qb659410 bs659411 A s H) (nbs659411 : (bs659411.length : Int) ≤ 65535) (lbs659411 : gLB bs659411) (bp659413 : gB p659413 0 1) (bf659414 : gF f659414 (-128) 127) (x659416 : 1 ≤ (n659415 : Int)) (x659417 : ((n659415 : Int) ≤ 16777216)) : CtA (gV D I) l yJ0_indexOf_2f485 cJ0_indexOf_2f485 3 (some FieldType.int) 2 51 0 0 [.ref qs659409, .ref q659407] (va_pl P659405 F659406) (pp_659418_String_indexOf D I P659405 F659406 q659407 q659408 qs659409 qb659410 bs659411 p659412 p659413 f659414 n659415) gNA := by
  refine CtA_ofF hl0 (by decide +kernel) (Nat.le_of_ble_eq_true rfl) ?_
  have bp659412 := gB_any p659412
  refine G_aload_n 0 dr_cJ0_indexOf_2f485_0 rfl ?_
  refine Gw_callVk (As := []) (gV_ok D I) (cp_658513_String_coder l hl0 D I P659405 F659406 qs659409 qb659410 bs659411 hbs659411 nbs659411 lbs659411) dr_cJ0_indexOf_2f485_1 ⟨wr_3_61, wr_1_21, wr_3_64, by decide, rfl, (Nat.le_of_ble_eq_true rfl), (Nat.le_of_ble_eq_true rfl)⟩ wr_3_62 wr_3_63 (fun _ _ _ h => (hbs659411 _ _ _ h).1) (show 0 + 0 ≤ 0 by first | omega | decide) (show 0 + 0 ≤ 0 by first | omega | decide) (Nat.le_of_ble_eq_true rfl) (fun r659422 w659423 dc659419 ds659420 hp659421 => ?_) (fun _ _ _ _ _ z => z.elim)
  obtain ⟨rfl, rfl, hdc, hds⟩ := hp659421
  change G _ _ _ _ _ _ _ (.int 0 :: _) _ _ _
  refine G_widen (cs' := 0) (sl' := 0) (by omega) (by omega) ?_
  refine G_istore_n (L' := [(2, .int 0), (0, .ref qs659409), (1, .ref q659407)]) dr_cJ0_indexOf_2f485_4 (Nat.le_of_ble_eq_true rfl) rfl ?_
  refine G_iload_n 0 dr_cJ0_indexOf_2f485_5 rfl ?_
  refine G_aload_n 2 dr_cJ0_indexOf_2f485_6 rfl ?_
  refine Gw_callV (As := []) (gV_ok D I) (cp_658297_String_coder l hl0 D I P659405 F659406 q659407 q659408 p659412 p659413 f659414 n659415 hmq659407 hmq659408 heq659407 heq659408 bp659413 bf659414 (by have qa0 : Int32.toInt 0 = 0 := (by decide); omega)) dr_cJ0_indexOf_2f485_7 ⟨wr_3_61, wr_1_21, wr_3_64, by decide, rfl, (Nat.le_of_ble_eq_true rfl), (Nat.le_of_ble_eq_true rfl)⟩ wr_3_62 wr_3_63 hmq659407 heq659407 rfl (show 0 + 0 ≤ 0 by first | omega | decide) (show 0 + 0 ≤ 0 by first | omega | decide) (Nat.le_of_ble_eq_true rfl) (fun r659427 w659428 dc659424 ds659425 hp659426 => ?_) (fun _ _ _ _ _ z => z.elim)
  obtain ⟨rfl, rfl, hdc, hds⟩ := hp659426
  change G _ _ _ _ _ _ _ (.int 0 :: _) _ _ _
  refine G_widen (cs' := 0) (sl' := 0) (by omega) (by omega) ?_
  refine G_icmp_ne 46 dr_cJ0_indexOf_2f485_10 (by decide +kernel) (fun hc => absurd hc (by decide)) (fun _ => ?_)
  refine G_aload_n 1 dr_cJ0_indexOf_2f485_13 rfl ?_
  refine Gw_callVk (As := []) (gV_ok D I) (cp_659373_String_isLatin1 l hl0 D I P659405 F659406 qs659409 qb659410 bs659411 hbs659411 nbs659411 lbs659411) dr_cJ0_indexOf_2f485_14 ⟨wr_3_71, wr_1_21, wr_3_74, by decide, rfl, (Nat.le_of_ble_eq_true rfl), (Nat.le_of_ble_eq_true rfl)⟩ wr_3_72 wr_3_73 (fun _ _ _ h => (hbs659411 _ _ _ h).1) (show 0 + 0 ≤ 0 by first | omega | decide) (show 0 + 0 ≤ 0 by first | omega | decide) (Nat.le_of_ble_eq_true rfl) (fun r659432 w659433 dc659429 ds659430 hp659431 => ?_) (fun _ _ _ _ _ z => z.elim)
  obtain ⟨rfl, rfl, hdc, hds⟩ := hp659431
  change G _ _ _ _ _ _ _ (.int 1 :: _) _ _ _
  refine G_widen (cs' := 0) (sl' := 0) (by omega) (by omega) ?_
  refine G_if_eq 34 dr_cJ0_indexOf_2f485_17 (by decide +kernel) (fun hc => absurd hc (by decide)) (fun _ => ?_)
  refine G_aload_n 1 dr_cJ0_indexOf_2f485_20 rfl ?_
  refine G_kget dr_cJ0_indexOf_2f485_21 wr_8_182 (fun _ _ _ h => (hbs659411 _ _ _ h).2.2.1) ?_
  refine G_aload_n 2 dr_cJ0_indexOf_2f485_24 rfl ?_
  refine Gp_get 0 hmq659407 heq659407 dr_cJ0_indexOf_2f485_25 (gk_J0 D I) (Nat.le_of_ble_eq_true rfl) wr_8_182 rfl ?_
  refine Gw_callS (As := [.ref qb659410, .ref q659408]) (gV_ok D I) (cp_659443_StringLatin1_indexOf l hl0 D I P659405 F659406 q659408 qb659410 bs659411 f659414 n659415 hmq659408 heq659408 (fun _ _ _ h => (hbs659411 _ _ _ h).2.2.2) (by omega) lbs659411 bf659414 (by have qa0 : Int32.toInt 0 = 0 := (by decide); omega) (by have qa0 : Int32.toInt 0 = 0 := (by decide); omega)) dr_cJ0_indexOf_2f485_28 ⟨wr_8_200, wr_1_28, wr_8_202, by decide, rfl, (Nat.le_of_ble_eq_true rfl), (Nat.le_of_ble_eq_true rfl)⟩ wr_8_201 (show 0 + 0 ≤ 0 by first | omega | decide) (show 0 + 0 ≤ 0 by first | omega | decide) (Nat.le_of_ble_eq_true rfl) (fun r666480 w666481 dc666477 ds666478 hp666479 => ?_) (fun _ _ _ _ _ z => z.elim)
  obtain ⟨o666482, rfl, rfl, hdc, hds, bo666482, x666483, x666484, ht666485⟩ := hp666479
  change G _ _ _ _ _ _ _ (.int o666482 :: _) _ _ _
  refine G_widen (cs' := 0) (sl' := 0) (by omega) (by omega) ?_
  refine G_goto 45 dr_cJ0_indexOf_2f485_31 (by decide +kernel) ?_
  exact G_iretA dr_cJ0_indexOf_2f485_45 rfl (Nat.le_of_ble_eq_true rfl) (Nat.le_of_ble_eq_true rfl) ⟨o666482, rfl, rfl, (Nat.le_of_ble_eq_true rfl), (Nat.le_of_ble_eq_true rfl), bo666482, (by have qa0 : Int32.toInt 0 = 0 := (by decide); omega), x666484, (fun R c1 => c1 o666482 bo666482 ht666485)⟩
/- tr_RStringLatin1_canEncode2: result -/
def tr_RStringLatin1_canEncode2 (a0 : Int32) (o1 : Int32) : Prop := ∀ R : (Int32) → Prop,
  (a0.toInt < 0 → R (0 : Int32)) →
  (0 ≤ a0.toInt → 255 < a0.toInt → R (0 : Int32)) →
  (0 ≤ a0.toInt → a0.toInt ≤ 255 → R (1 : Int32)) →
  R o1
abbrev ky_666527_StringLatin1_canEncode : gKey := (cJ1_canEncode_9a6ad, 1, "java/lang/StringLatin1", (some FieldType.boolean), [], "canEncode", fun _ _ => True)
def pp_666527_StringLatin1_canEncode (D : va_G) (I : FieldType → ClassId) (P666524 : List Nat) (F666525 : Nat → va_E) (p666526 : Int32) : Option Value → va_W → Nat → Nat → Prop := fun r w dc ds => (r = some (.int 0) ∧ w = va_pl P666524 F666525 ∧ dc ≤ 0 ∧ ds ≤ 0 ∧ p666526.toInt < 0 ∧ tr_RStringLatin1_canEncode2 p666526 (0 : Int32)) ∨ (r = some (.int 0) ∧ w = va_pl P666524 F666525 ∧ dc ≤ 0 ∧ ds ≤ 0 ∧ 0 ≤ p666526.toInt ∧ 255 < p666526.toInt ∧ tr_RStringLatin1_canEncode2 p666526 (0 : Int32)) ∨ (r = some (.int 1) ∧ w = va_pl P666524 F666525 ∧ dc ≤ 0 ∧ ds ≤ 0 ∧ 0 ≤ p666526.toInt ∧ p666526.toInt ≤ 255 ∧ tr_RStringLatin1_canEncode2 p666526 (1 : Int32))
set_option maxRecDepth 100000 in
set_option maxHeartbeats 4000000 in
theorem cp_666527_StringLatin1_canEncode (l : Launch) (hl0 : l.stackTraces = false) (D : va_G) (I : FieldType → ClassId) (P666524 : List Nat) (F666525 : Nat → va_E) (p666526 : Int32)  : CtA (gV D I) l yJ1_canEncode_9a6ad cJ1_canEncode_9a6ad 1 (some FieldType.boolean) 0 0 0 0 [.int p666526] (va_pl P666524 F666525) (pp_666527_StringLatin1_canEncode D I P666524 F666525 p666526) gNA := by
  refine CtA_ofF hl0 (by decide +kernel) (Nat.le_of_ble_eq_true rfl) ?_
  have bp666526 := gB_any p666526
  refine G_iload_n 0 dr_cJ1_canEncode_9a6ad_0 rfl ?_
  refine G_if_lt 15 dr_cJ1_canEncode_9a6ad_1 (by decide +kernel) (fun hc666528 => ?_) (fun hc666528 => ?_)
  · have r666529 : p666526.toInt < 0 := gj_lt hc666528 (show Int32.toInt 0 = 0 by decide)
    have bp666526' : gB p666526 (-2147483648) (-1) := ⟨by omega, by omega⟩
    refine G_iconst 0 dr_cJ1_canEncode_9a6ad_15 (by decide +kernel) ?_
    exact G_zretA FieldType.boolean dr_cJ1_canEncode_9a6ad_16 rfl rfl (Nat.le_of_ble_eq_true rfl) (Nat.le_of_ble_eq_true rfl) (Or.inl ⟨rfl, rfl, (Nat.le_of_ble_eq_true rfl), (Nat.le_of_ble_eq_true rfl), r666529, (fun R c1 c2 c3 => c1 r666529)⟩)
  · have r666530 : 0 ≤ p666526.toInt := gj_nlt hc666528 (show Int32.toInt 0 = 0 by decide)
    have bp666526' : gB p666526 0 2147483647 := ⟨by omega, by omega⟩
    refine G_iload_n 0 dr_cJ1_canEncode_9a6ad_4 rfl ?_
    refine G_sipush 255 dr_cJ1_canEncode_9a6ad_5 (by decide +kernel) ?_
    refine G_icmp_gt 15 dr_cJ1_canEncode_9a6ad_8 (by decide +kernel) (fun hc666531 => ?_) (fun hc666531 => ?_)
    · have r666532 : 255 < p666526.toInt := gj_ltL hc666531 (show Int32.toInt 255 = 255 by decide)
      have bp666526'' : gB p666526 256 2147483647 := ⟨by omega, by omega⟩
      refine G_iconst 0 dr_cJ1_canEncode_9a6ad_15 (by decide +kernel) ?_
      exact G_zretA FieldType.boolean dr_cJ1_canEncode_9a6ad_16 rfl rfl (Nat.le_of_ble_eq_true rfl) (Nat.le_of_ble_eq_true rfl) (Or.inr (Or.inl ⟨rfl, rfl, (Nat.le_of_ble_eq_true rfl), (Nat.le_of_ble_eq_true rfl), r666530, r666532, (fun R c1 c2 c3 => c2 r666530 r666532)⟩))
    · have r666533 : p666526.toInt ≤ 255 := gj_nltL hc666531 (show Int32.toInt 255 = 255 by decide)
      have bp666526'' : gB p666526 0 255 := ⟨by omega, by omega⟩
      refine G_iconst 1 dr_cJ1_canEncode_9a6ad_11 (by decide +kernel) ?_
      refine G_goto 16 dr_cJ1_canEncode_9a6ad_12 (by decide +kernel) ?_
      exact G_zretA FieldType.boolean dr_cJ1_canEncode_9a6ad_16 rfl rfl (Nat.le_of_ble_eq_true rfl) (Nat.le_of_ble_eq_true rfl) (Or.inr (Or.inr (⟨rfl, rfl, (Nat.le_of_ble_eq_true rfl), (Nat.le_of_ble_eq_true rfl), r666530, r666533, (fun R c1 c2 c3 => c3 r666530 r666533)⟩)))
/- tl_RStringLatin1_indexOfChar_7: l5; out: l5 -/
def tl_RStringLatin1_indexOfChar_7 (a3 : Int32) (bs : List Int32) (c1 : Int32) (s1 : Int32) (k : Nat) (e1 : Int32) : Prop := ∀ R : (Int32) → Nat → (Int32) → Prop,
  (∀ (l5_1 : Int32), gB l5_1 0 65535 → a3.toInt ≤ l5_1.toInt → R l5_1 31 (0 : Int32)) →
  (∀ (l5_1 : Int32) (x1 : Int32) (x2 : Int32) (k : Nat) (e1 : Int32), gB l5_1 0 65535 → l5_1.toInt < a3.toInt → x1 = bs.getD l5_1.toNatClampNeg 0 → x1.toInt ≠ c1.toInt → x2.toInt = l5_1.toInt + 1 → R x2 k e1 → R l5_1 k e1) →
  (∀ (l5_1 : Int32) (x1 : Int32), gB l5_1 0 65535 → l5_1.toInt < a3.toInt → x1 = bs.getD l5_1.toNatClampNeg 0 → x1.toInt = c1.toInt → R l5_1 22 l5_1) →
  R s1 k e1
/- tr_RStringLatin1_indexOfChar: result -/
def tr_RStringLatin1_indexOfChar (bs : List Int32) (a1 : Int32) (a2 : Int32) (a3 : Int32) (o1 : Int32) : Prop := ∀ R : (Int32) → Prop,
  (∀ (x1 : Int32), x1 = a1.toInt8.toInt32 → tl_RStringLatin1_indexOfChar_7 a3 bs x1 a2 31 (0 : Int32) → R (-1 : Int32)) →
  (∀ (x1 : Int32) (x2 : Int32), x1 = a1.toInt8.toInt32 → tl_RStringLatin1_indexOfChar_7 a3 bs x1 a2 22 x2 → R x2) →
  R o1
abbrev ky_666561_StringLatin1_indexOfChar : gKey := (cJ1_indexOfChar_4cfef, 6, "java/lang/StringLatin1", (some FieldType.int), [], "indexOfChar", fun _ _ => True)
def pp_666561_StringLatin1_indexOfChar (D : va_G) (I : FieldType → ClassId) (P666553 : List Nat) (F666554 : Nat → va_E) (qs666555 : Nat) (bs666556 : List Int32) (p666557 : Int32) (p666558 : Int32) (p666559 : Int32) : Option Value → va_W → Nat → Nat → Prop := fun r w dc ds => ∃ (o666591 : Int32), r = some (.int o666591) ∧ w = va_pl P666553 F666554 ∧ dc ≤ 0 ∧ ds ≤ 0 ∧ gB o666591 (-1) 65534 ∧ tr_RStringLatin1_indexOfChar bs666556 p666557 p666558 p666559 o666591
set_option maxRecDepth 100000 in
set_option maxHeartbeats 4000000 in
theorem cp_666561_StringLatin1_indexOfChar (l : Launch) (hl0 : l.stackTraces = false) (D : va_G) (I : FieldType → ClassId) (P666553 : List Nat) (F666554 : Nat → va_E) (qs666555 : Nat) (bs666556 : List Int32) (p666557 : Int32) (p666558 : Int32) (p666559 : Int32) (hbs666556 : ∀ A s H, (gV D I).2.2.2.1 A s H → va_T .byte qs666555 bs666556.length (fun j => .int (bs666556.getD j 0)) A s H) (nbs666556 : (bs666556.length : Int) ≤ 65535) (lbs666556 : gLB bs666556) (bp666557 : gB p666557 0 65535) (bp666558 : gB p666558 0 65535) (bp666559 : gB p666559 0 65535) (x666560 : p666559.toInt ≤ (bs666556.length : Int)) : CtA (gV D I) l yJ1_indexOfChar_4cfef cJ1_indexOfChar_4cfef 6 (some FieldType.int) 0 0 0 0 [.ref qs666555, .int p666557, .int p666558, .int p666559] (va_pl P666553 F666554) (pp_666561_StringLatin1_indexOfChar D I P666553 F666554 qs666555 bs666556 p666557 p666558 p666559) gNA := by
  refine CtA_ofF hl0 (by decide +kernel) (Nat.le_of_ble_eq_true rfl) ?_
  refine G_iload_n 1 dr_cJ1_indexOfChar_4cfef_0 rfl ?_
  refine G_i2b dr_cJ1_indexOfChar_4cfef_1 (G_nam fun z666562 hz666562 => ?_)
  have bz666562 : gB z666562 (-128) 127 := gB_i2b hz666562
  refine G_istore (L' := [(4, .int z666562), (0, .ref qs666555), (1, .int p666557), (2, .int p666558), (3, .int p666559)]) dr_cJ1_indexOfChar_4cfef_2 (Nat.le_of_ble_eq_true rfl) rfl ?_
  refine G_iload_n 3 dr_cJ1_indexOfChar_4cfef_4 rfl ?_
  refine G_istore (L' := [(5, .int p666558), (4, .int z666562), (0, .ref qs666555), (1, .int p666557), (2, .int p666558), (3, .int p666559)]) dr_cJ1_indexOfChar_4cfef_5 (Nat.le_of_ble_eq_true rfl) rfl ?_
  have hlp7_666580 : ∀ (n7_666580 : Nat) (g666580 : Int32), gB g666580 0 65535 → (∀ (k : Nat) (e1 : Int32), tl_RStringLatin1_indexOfChar_7 p666559 bs666556 z666562 g666580 k e1 → tl_RStringLatin1_indexOfChar_7 p666559 bs666556 z666562 p666558 k e1) → ((65536 : Int) - g666580.toInt).toNat < n7_666580 → G (gV D I) l (gRm 0 0 0 0) (gMA (gV D I) (pp_666561_StringLatin1_indexOfChar D I P666553 F666554 qs666555 bs666556 p666557 p666558 p666559) gNA 0 0) ky_666561_StringLatin1_indexOfChar 7 [(5, .int g666580), (4, .int z666562), (0, .ref qs666555), (1, .int p666557), (2, .int p666558), (3, .int p666559)] [] (va_pl P666553 F666554) 0 0 := by
    intro n7_666580
    induction n7_666580 with
    | zero => intro g666580 bg666580 kt7_666580 hm7_666580; exact absurd hm7_666580 (Nat.not_lt_zero _)
    | succ n7_666580 ih7_666580 =>
      intro g666580 bg666580 kt7_666580 hm7_666580
      refine G_iload 0 dr_cJ1_indexOfChar_4cfef_7 rfl ?_
      refine G_iload_n 5 dr_cJ1_indexOfChar_4cfef_9 rfl ?_
      refine G_icmp_ge 31 dr_cJ1_indexOfChar_4cfef_10 (by decide +kernel) (fun hc666581 => ?_) (fun hc666581 => ?_)
      · have r666582 : p666559.toInt ≤ g666580.toInt := gC_le hc666581
        have hx666583 : tl_RStringLatin1_indexOfChar_7 p666559 bs666556 z666562 p666558 31 (0 : Int32) := kt7_666580 31 (0 : Int32) (fun R c1 c2 c3 => c1 g666580 bg666580 r666582)
        refine G_iconst (-1) dr_cJ1_indexOfChar_4cfef_31 (by decide +kernel) ?_
        exact G_iretA dr_cJ1_indexOfChar_4cfef_32 rfl (Nat.le_of_ble_eq_true rfl) (Nat.le_of_ble_eq_true rfl) ⟨(-1), rfl, rfl, (Nat.le_of_ble_eq_true rfl), (Nat.le_of_ble_eq_true rfl), (gB_w (gBl (show Int32.toInt (-1) = (-1) by decide)) (by decide) (by decide)), (fun R c1 c2 => c1 z666562 hz666562 hx666583)⟩
      · have r666584 : g666580.toInt < p666559.toInt := gC_nle hc666581
        have bg666580' : gB g666580 0 65534 := ⟨by omega, by omega⟩
        have bp666559' : gB p666559 1 65535 := ⟨by omega, by omega⟩
        refine G_aload_n 2 dr_cJ1_indexOfChar_4cfef_13 rfl ?_
        refine G_iload 0 dr_cJ1_indexOfChar_4cfef_14 rfl ?_
        refine G_kbald (f := fun j => bs666556.getD j 0) dr_cJ1_indexOfChar_4cfef_16 hbs666556 (gB_inr (by omega) (by omega)) (G_nam fun z666585 hz666585 => ?_)
        have bz666585 : gB z666585 (-2147483648) 2147483647 := gB_any z666585
        refine G_iload 1 dr_cJ1_indexOfChar_4cfef_17 rfl ?_
        refine G_icmp_ne 25 dr_cJ1_indexOfChar_4cfef_19 (by decide +kernel) (fun hc666586 => ?_) (fun hc666586 => ?_)
        · have r666587 : z666585.toInt ≠ z666562.toInt := gC_ne hc666586
          obtain ⟨z666588, hz666588⟩ : ∃ z : Int32, z = g666580 + Int32.ofInt 1 := ⟨_, rfl⟩
          have ez666588 : z666588.toInt = g666580.toInt + 1 := gI_inc hz666588 (by decide) bg666580' (by decide) (by decide)
          have bz666588 : gB z666588 1 65535 := ⟨by omega, by omega⟩
          refine G_iinc (L' := [(5, .int z666588), (4, .int z666562), (0, .ref qs666555), (1, .int p666557), (2, .int p666558), (3, .int p666559)]) z666588 0 dr_cJ1_indexOfChar_4cfef_25 rfl hz666588.symm (Nat.le_of_ble_eq_true rfl) rfl ?_
          refine G_goto 7 dr_cJ1_indexOfChar_4cfef_28 (by decide +kernel) ?_
          exact ih7_666580 z666588 (gB_w bz666588 (by decide) (by decide)) (fun k e1 ht => kt7_666580 k e1 (fun R c1 c2 c3 => c2 g666580 z666585 z666588 k e1 bg666580 r666584 hz666585 r666587 ez666588 (ht R c1 c2 c3))) (by omega)
        · have r666589 : z666585.toInt = z666562.toInt := gC_eq hc666586
          have bz666585' : gB z666585 (-128) 127 := ⟨by omega, by omega⟩
          have hx666590 : tl_RStringLatin1_indexOfChar_7 p666559 bs666556 z666562 p666558 22 g666580 := kt7_666580 22 g666580 (fun R c1 c2 c3 => c3 g666580 z666585 bg666580 r666584 hz666585 r666589)
          refine G_iload 0 dr_cJ1_indexOfChar_4cfef_22 rfl ?_
          exact G_iretA dr_cJ1_indexOfChar_4cfef_24 rfl (Nat.le_of_ble_eq_true rfl) (Nat.le_of_ble_eq_true rfl) ⟨g666580, rfl, rfl, (Nat.le_of_ble_eq_true rfl), (Nat.le_of_ble_eq_true rfl), (gB_w bg666580' (by decide) (by decide)), (fun R c1 c2 => c2 z666562 g666580 hz666562 hx666590)⟩
  exact hlp7_666580 (((65536 : Int) - p666558.toInt).toNat + 1) p666558 bp666558 (fun k e1 ht => ht) (Nat.lt_succ_self _)
/- tr_RStringLatin1_indexOf3: result -/
def tr_RStringLatin1_indexOf3 (bs : List Int32) (a1 : Int32) (a2 : Int32) (a3 : Int32) (o1 : Int32) : Prop := ∀ R : (Int32) → Prop,
  (tr_RStringLatin1_canEncode2 a1 (0 : Int32) → R (-1 : Int32)) →
  (∀ (x1 : Int32) (x2 : Int32) (x3 : Int32) (x4 : Int32), tr_RStringLatin1_canEncode2 a1 (1 : Int32) → (a2.toInt ≤ x1.toInt ∧ 0 ≤ x1.toInt ∧ (x1.toInt = a2.toInt ∨ x1.toInt = 0)) → x2.toInt = (bs.length : Int) → (a3.toInt ≥ x3.toInt ∧ x2.toInt ≥ x3.toInt ∧ (x3.toInt = a3.toInt ∨ x3.toInt = x2.toInt)) → x1.toInt < x3.toInt → gB x4 (-1) 65534 → tr_RStringLatin1_indexOfChar bs a1 x1 x3 x4 → R x4) →
  (∀ (x1 : Int32) (x2 : Int32) (x3 : Int32), tr_RStringLatin1_canEncode2 a1 (1 : Int32) → (a2.toInt ≤ x1.toInt ∧ 0 ≤ x1.toInt ∧ (x1.toInt = a2.toInt ∨ x1.toInt = 0)) → x2.toInt = (bs.length : Int) → (a3.toInt ≥ x3.toInt ∧ x2.toInt ≥ x3.toInt ∧ (x3.toInt = a3.toInt ∨ x3.toInt = x2.toInt)) → x3.toInt ≤ x1.toInt → R (-1 : Int32)) →
  R o1
abbrev ky_666523_StringLatin1_indexOf : gKey := (cJ1_indexOf_4cfef, 4, "java/lang/StringLatin1", (some FieldType.int), [], "indexOf", fun _ _ => True)
def pp_666523_StringLatin1_indexOf (D : va_G) (I : FieldType → ClassId) (P666515 : List Nat) (F666516 : Nat → va_E) (qs666517 : Nat) (bs666518 : List Int32) (p666519 : Int32) (p666520 : Int32) (p666521 : Int32) : Option Value → va_W → Nat → Nat → Prop := fun r w dc ds => ∃ (o666600 : Int32), r = some (.int o666600) ∧ w = va_pl P666515 F666516 ∧ dc ≤ 0 ∧ ds ≤ 0 ∧ gB o666600 (-1) 65534 ∧ tr_RStringLatin1_indexOf3 bs666518 p666519 p666520 p666521 o666600
set_option maxRecDepth 100000 in
set_option maxHeartbeats 4000000 in
theorem cp_666523_StringLatin1_indexOf (l : Launch) (hl0 : l.stackTraces = false) (D : va_G) (I : FieldType → ClassId) (P666515 : List Nat) (F666516 : Nat → va_E) (qs666517 : Nat) (bs666518 : List Int32) (p666519 : Int32) (p666520 : Int32) (p666521 : Int32) (hbs666518 : ∀ A s H, (gV D I).2.2.2.1 A s H → va_T .byte qs666517 bs666518.length (fun j => .int (bs666518.getD j 0)) A s H) (nbs666518 : (bs666518.length : Int) ≤ 65535) (lbs666518 : gLB bs666518) (bp666519 : gB p666519 0 65535) (bp666520 : gB p666520 0 1) (bp666521 : gB p666521 0 65535) (x666522 : p666521.toInt = (bs666518.length : Int)) : CtA (gV D I) l yJ1_indexOf_4cfef cJ1_indexOf_4cfef 4 (some FieldType.int) 1 25 0 0 [.ref qs666517, .int p666519, .int p666520, .int p666521] (va_pl P666515 F666516) (pp_666523_StringLatin1_indexOf D I P666515 F666516 qs666517 bs666518 p666519 p666520 p666521) gNA := by
  refine CtA_ofF hl0 (by decide +kernel) (Nat.le_of_ble_eq_true rfl) ?_
  refine G_iload_n 1 dr_cJ1_indexOf_4cfef_0 rfl ?_
  refine Gw_callS (As := [.int p666519]) (gV_ok D I) (cp_666527_StringLatin1_canEncode l hl0 D I P666515 F666516 p666519 ) dr_cJ1_indexOf_4cfef_1 ⟨wr_9_2, wr_1_28, wr_9_4, by decide, rfl, (Nat.le_of_ble_eq_true rfl), (Nat.le_of_ble_eq_true rfl)⟩ wr_9_3 (show 0 + 0 ≤ 0 by first | omega | decide) (show 0 + 0 ≤ 0 by first | omega | decide) (Nat.le_of_ble_eq_true rfl) (fun r666537 w666538 dc666534 ds666535 hp666536 => ?_) (fun _ _ _ _ _ z => z.elim)
  rcases hp666536 with ⟨rfl, rfl, hdc, hds, r666539, r666540⟩ | ⟨rfl, rfl, hdc, hds, r666541, r666542, r666543⟩ | ⟨rfl, rfl, hdc, hds, r666544, r666545, r666546⟩
  · exact absurd (show False by omega) not_false
  · have bp666519' : gB p666519 256 65535 := ⟨by omega, by omega⟩
    change G _ _ _ _ _ _ _ (.int 0 :: _) _ _ _
    refine G_widen (cs' := 0) (sl' := 0) (by omega) (by omega) ?_
    refine G_if_ne 9 dr_cJ1_indexOf_4cfef_4 (by decide +kernel) (fun hc => absurd hc (by decide)) (fun _ => ?_)
    refine G_iconst (-1) dr_cJ1_indexOf_4cfef_7 (by decide +kernel) ?_
    exact G_iretA dr_cJ1_indexOf_4cfef_8 rfl (Nat.le_of_ble_eq_true rfl) (Nat.le_of_ble_eq_true rfl) ⟨(-1), rfl, rfl, (Nat.le_of_ble_eq_true rfl), (Nat.le_of_ble_eq_true rfl), (gB_w (gBl (show Int32.toInt (-1) = (-1) by decide)) (by decide) (by decide)), (fun R c1 c2 c3 => c1 r666543)⟩
  · have bp666519' : gB p666519 0 255 := ⟨by omega, by omega⟩
    change G _ _ _ _ _ _ _ (.int 1 :: _) _ _ _
    refine G_widen (cs' := 0) (sl' := 0) (by omega) (by omega) ?_
    refine G_if_ne 9 dr_cJ1_indexOf_4cfef_4 (by decide +kernel) (fun _ => ?_) (fun hc => absurd hc (by decide))
    refine G_iload_n 2 dr_cJ1_indexOf_4cfef_9 rfl ?_
    refine G_iconst 0 dr_cJ1_indexOf_4cfef_10 (by decide +kernel) ?_
    refine G_mmax dr_cJ1_indexOf_4cfef_11 wr_9_5 wr_1_140 wr_1_6 wr_1_141 (Nat.le_of_ble_eq_true rfl) (Nat.le_of_ble_eq_true rfl) (show 0 ≤ 0 by first | omega | decide) (show 0 ≤ 0 by first | omega | decide) (G_nam fun z666548 hz666548 => ?_)
    have ez666548 : p666520.toInt ≤ z666548.toInt ∧ 0 ≤ z666548.toInt ∧ (z666548.toInt = p666520.toInt ∨ z666548.toInt = 0) := by have := gI_max hz666548; rw [show Int32.toInt 0 = 0 from by decide] at this; omega
    have bz666548 : gB z666548 0 1 := ⟨by omega, by omega⟩
    refine G_istore_n (L' := [(2, .int z666548), (0, .ref qs666517), (1, .int p666519), (3, .int p666521)]) dr_cJ1_indexOf_4cfef_14 (Nat.le_of_ble_eq_true rfl) rfl ?_
    refine G_iload_n 3 dr_cJ1_indexOf_4cfef_15 rfl ?_
    refine G_aload_n 1 dr_cJ1_indexOf_4cfef_16 rfl ?_
    refine G_klen dr_cJ1_indexOf_4cfef_17 hbs666518 (G_nam fun z666549 hz666549 => ?_)
    have ez666549 : z666549.toInt = (bs666518.length : Int) := gI_ofN hz666549 nbs666518
    have bz666549 : gB z666549 0 65535 := ⟨by omega, by omega⟩
    refine G_mmin dr_cJ1_indexOf_4cfef_18 wr_9_6 wr_3_227 wr_1_6 wr_3_228 (Nat.le_of_ble_eq_true rfl) (Nat.le_of_ble_eq_true rfl) (show 0 ≤ 0 by first | omega | decide) (show 0 ≤ 0 by first | omega | decide) (G_nam fun z666550 hz666550 => ?_)
    have ez666550 : p666521.toInt ≥ z666550.toInt ∧ z666549.toInt ≥ z666550.toInt ∧ (z666550.toInt = p666521.toInt ∨ z666550.toInt = z666549.toInt) := by have := gI_min hz666550; omega
    have bz666550 : gB z666550 0 65535 := ⟨by omega, by omega⟩
    refine G_istore_n (L' := [(3, .int z666550), (2, .int z666548), (0, .ref qs666517), (1, .int p666519)]) dr_cJ1_indexOf_4cfef_21 (Nat.le_of_ble_eq_true rfl) rfl ?_
    refine G_iload_n 1 dr_cJ1_indexOf_4cfef_22 rfl ?_
    refine G_iload_n 0 dr_cJ1_indexOf_4cfef_23 rfl ?_
    refine G_icmp_lt 29 dr_cJ1_indexOf_4cfef_24 (by decide +kernel) (fun hc666551 => ?_) (fun hc666551 => ?_)
    · have r666552 : z666548.toInt < z666550.toInt := gC_lt hc666551
      have bz666550' : gB z666550 1 65535 := ⟨by omega, by omega⟩
      refine G_aload_n 2 dr_cJ1_indexOf_4cfef_29 rfl ?_
      refine G_iload_n 3 dr_cJ1_indexOf_4cfef_30 rfl ?_
      refine G_iload_n 1 dr_cJ1_indexOf_4cfef_31 rfl ?_
      refine G_iload_n 0 dr_cJ1_indexOf_4cfef_32 rfl ?_
      refine Gw_callS (As := [.ref qs666517, .int p666519, .int z666548, .int z666550]) (gV_ok D I) (cp_666561_StringLatin1_indexOfChar l hl0 D I P666515 F666516 qs666517 bs666518 p666519 z666548 z666550 hbs666518 nbs666518 lbs666518 (gB_w bp666519' (by decide) (by decide)) (gB_w bz666548 (by decide) (by decide)) (gB_w bz666550' (by decide) (by decide)) (by omega)) dr_cJ1_indexOf_4cfef_33 ⟨wr_9_7, wr_1_28, wr_9_9, by decide, rfl, (Nat.le_of_ble_eq_true rfl), (Nat.le_of_ble_eq_true rfl)⟩ wr_9_8 (show 0 + 0 ≤ 0 by first | omega | decide) (show 0 + 0 ≤ 0 by first | omega | decide) (Nat.le_of_ble_eq_true rfl) (fun r666595 w666596 dc666592 ds666593 hp666594 => ?_) (fun _ _ _ _ _ z => z.elim)
      obtain ⟨o666597, rfl, rfl, hdc, hds, bo666597, ht666598⟩ := hp666594
      change G _ _ _ _ _ _ _ (.int o666597 :: _) _ _ _
      refine G_widen (cs' := 0) (sl' := 0) (by omega) (by omega) ?_
      exact G_iretA dr_cJ1_indexOf_4cfef_36 rfl (Nat.le_of_ble_eq_true rfl) (Nat.le_of_ble_eq_true rfl) ⟨o666597, rfl, rfl, (Nat.le_of_ble_eq_true rfl), (Nat.le_of_ble_eq_true rfl), bo666597, (fun R c1 c2 c3 => c2 z666548 z666549 z666550 o666597 r666546 ez666548 ez666549 ez666550 r666552 bo666597 ht666598)⟩
    · have r666599 : z666550.toInt ≤ z666548.toInt := gC_nlt hc666551
      have bz666550' : gB z666550 0 1 := ⟨by omega, by omega⟩
      refine G_iconst (-1) dr_cJ1_indexOf_4cfef_27 (by decide +kernel) ?_
      exact G_iretA dr_cJ1_indexOf_4cfef_28 rfl (Nat.le_of_ble_eq_true rfl) (Nat.le_of_ble_eq_true rfl) ⟨(-1), rfl, rfl, (Nat.le_of_ble_eq_true rfl), (Nat.le_of_ble_eq_true rfl), (gB_w (gBl (show Int32.toInt (-1) = (-1) by decide)) (by decide) (by decide)), (fun R c1 c2 c3 => c3 z666548 z666549 z666550 r666546 ez666548 ez666549 ez666550 r666599)⟩
/- tr_RString_indexOf3: result -/
def tr_RString_indexOf3 (bs : List Int32) (a1 : Int32) (a2 : Int32) (o1 : Int32) : Prop := ∀ R : (Int32) → Prop,
  (∀ (x1 : Int32) (x2 : Int32), gB x1 0 65535 → tr_RString_length2 bs x1 → gB x2 (-1) 65534 → tr_RStringLatin1_indexOf3 bs a1 a2 x1 x2 → R x2) →
  R o1
abbrev ky_666501_String_indexOf : gKey := (cJ0_indexOf_7cf53, 3, "java/lang/String", (some FieldType.int), [], "indexOf", fun _ _ => True)
def pp_666501_String_indexOf (D : va_G) (I : FieldType → ClassId) (P666494 : List Nat) (F666495 : Nat → va_E) (qs666496 : Nat) (qb666497 : Nat) (bs666498 : List Int32) (p666499 : Int32) (p666500 : Int32) : Option Value → va_W → Nat → Nat → Prop := fun r w dc ds => ∃ (o666608 : Int32), r = some (.int o666608) ∧ w = va_pl P666494 F666495 ∧ dc ≤ 0 ∧ ds ≤ 0 ∧ gB o666608 (-1) 65534 ∧ tr_RString_indexOf3 bs666498 p666499 p666500 o666608
set_option maxRecDepth 100000 in
set_option maxHeartbeats 4000000 in
theorem cp_666501_String_indexOf (l : Launch) (hl0 : l.stackTraces = false) (D : va_G) (I : FieldType → ClassId) (P666494 : List Nat) (F666495 : Nat → va_E) (qs666496 : Nat) (qb666497 : Nat) (bs666498 : List Int32) (p666499 : Int32) (p666500 : Int32) (hbs666498 : ∀ A s H, (gV D I).2.2.2.1 A s H → gSC qs666496 qb666497 bs666498 A s H) (nbs666498 : (bs666498.length : Int) ≤ 65535) (lbs666498 : gLB bs666498) (bp666499 : gB p666499 0 65535) (bp666500 : gB p666500 0 1) : CtA (gV D I) l yJ0_indexOf_7cf53 cJ0_indexOf_7cf53 3 (some FieldType.int) 2 48 0 0 [.ref qs666496, .int p666499, .int p666500] (va_pl P666494 F666495) (pp_666501_String_indexOf D I P666494 F666495 qs666496 qb666497 bs666498 p666499 p666500) gNA := by
  refine CtA_ofF hl0 (by decide +kernel) (Nat.le_of_ble_eq_true rfl) ?_
  refine G_aload_n 0 dr_cJ0_indexOf_7cf53_0 rfl ?_
  refine Gw_callVk (As := []) (gV_ok D I) (cp_659373_String_isLatin1 l hl0 D I P666494 F666495 qs666496 qb666497 bs666498 hbs666498 nbs666498 lbs666498) dr_cJ0_indexOf_7cf53_1 ⟨wr_3_71, wr_1_21, wr_3_74, by decide, rfl, (Nat.le_of_ble_eq_true rfl), (Nat.le_of_ble_eq_true rfl)⟩ wr_3_72 wr_3_73 (fun _ _ _ h => (hbs666498 _ _ _ h).1) (show 0 + 0 ≤ 0 by first | omega | decide) (show 0 + 0 ≤ 0 by first | omega | decide) (Nat.le_of_ble_eq_true rfl) (fun r666505 w666506 dc666502 ds666503 hp666504 => ?_) (fun _ _ _ _ _ z => z.elim)
  obtain ⟨rfl, rfl, hdc, hds⟩ := hp666504
  change G _ _ _ _ _ _ _ (.int 1 :: _) _ _ _
  refine G_widen (cs' := 0) (sl' := 0) (by omega) (by omega) ?_
  refine G_if_eq 23 dr_cJ0_indexOf_7cf53_4 (by decide +kernel) (fun hc => absurd hc (by decide)) (fun _ => ?_)
  refine G_aload_n 0 dr_cJ0_indexOf_7cf53_7 rfl ?_
  refine G_kget dr_cJ0_indexOf_7cf53_8 wr_8_182 (fun _ _ _ h => (hbs666498 _ _ _ h).2.2.1) ?_
  refine G_iload_n 1 dr_cJ0_indexOf_7cf53_11 rfl ?_
  refine G_iload_n 2 dr_cJ0_indexOf_7cf53_12 rfl ?_
  refine G_aload_n 0 dr_cJ0_indexOf_7cf53_13 rfl ?_
  refine Gw_callVk (As := []) (gV_ok D I) (cp_658506_String_length l hl0 D I P666494 F666495 qs666496 qb666497 bs666498 hbs666498 nbs666498 lbs666498) dr_cJ0_indexOf_7cf53_14 ⟨wr_8_238, wr_1_21, wr_3_60, by decide, rfl, (Nat.le_of_ble_eq_true rfl), (Nat.le_of_ble_eq_true rfl)⟩ wr_3_58 wr_3_59 (fun _ _ _ h => (hbs666498 _ _ _ h).1) (show 0 + 0 ≤ 0 by first | omega | decide) (show 0 + 0 ≤ 0 by first | omega | decide) (Nat.le_of_ble_eq_true rfl) (fun r666510 w666511 dc666507 ds666508 hp666509 => ?_) (fun _ _ _ _ _ z => z.elim)
  obtain ⟨o666512, rfl, rfl, hdc, hds, bo666512, x666513, ht666514⟩ := hp666509
  change G _ _ _ _ _ _ _ (.int o666512 :: _) _ _ _
  refine G_widen (cs' := 0) (sl' := 0) (by omega) (by omega) ?_
  refine Gw_callS (As := [.ref qb666497, .int p666499, .int p666500, .int o666512]) (gV_ok D I) (cp_666523_StringLatin1_indexOf l hl0 D I P666494 F666495 qb666497 bs666498 p666499 p666500 o666512 (fun _ _ _ h => (hbs666498 _ _ _ h).2.2.2) (by omega) lbs666498 bp666499 bp666500 bo666512 (by omega)) dr_cJ0_indexOf_7cf53_17 ⟨wr_8_239, wr_1_28, wr_9_1, by decide, rfl, (Nat.le_of_ble_eq_true rfl), (Nat.le_of_ble_eq_true rfl)⟩ wr_9_0 (show 0 + 0 ≤ 0 by first | omega | decide) (show 0 + 0 ≤ 0 by first | omega | decide) (Nat.le_of_ble_eq_true rfl) (fun r666604 w666605 dc666601 ds666602 hp666603 => ?_) (fun _ _ _ _ _ z => z.elim)
  obtain ⟨o666606, rfl, rfl, hdc, hds, bo666606, ht666607⟩ := hp666603
  change G _ _ _ _ _ _ _ (.int o666606 :: _) _ _ _
  refine G_widen (cs' := 0) (sl' := 0) (by omega) (by omega) ?_
  refine G_goto 36 dr_cJ0_indexOf_7cf53_20 (by decide +kernel) ?_
  exact G_iretA dr_cJ0_indexOf_7cf53_36 rfl (Nat.le_of_ble_eq_true rfl) (Nat.le_of_ble_eq_true rfl) ⟨o666606, rfl, rfl, (Nat.le_of_ble_eq_true rfl), (Nat.le_of_ble_eq_true rfl), bo666606, (fun R c1 => c1 o666512 o666606 bo666512 ht666514 bo666606 ht666607)⟩
/- tr_RString_indexOf2: result -/
def tr_RString_indexOf2 (bs : List Int32) (a1 : Int32) (o1 : Int32) : Prop := ∀ R : (Int32) → Prop,
  (∀ (x1 : Int32), gB x1 (-1) 65534 → tr_RString_indexOf3 bs a1 (0 : Int32) x1 → R x1) →
  R o1
abbrev ky_666493_String_indexOf : gKey := (cJ0_indexOf_0f7a4, 2, "java/lang/String", (some FieldType.int), [], "indexOf", fun _ _ => True)
def pp_666493_String_indexOf (D : va_G) (I : FieldType → ClassId) (P666487 : List Nat) (F666488 : Nat → va_E) (qs666489 : Nat) (qb666490 : Nat) (bs666491 : List Int32) (p666492 : Int32) : Option Value → va_W → Nat → Nat → Prop := fun r w dc ds => ∃ (o666616 : Int32), r = some (.int o666616) ∧ w = va_pl P666487 F666488 ∧ dc ≤ 0 ∧ ds ≤ 0 ∧ gB o666616 (-1) 65534 ∧ tr_RString_indexOf2 bs666491 p666492 o666616
set_option maxRecDepth 100000 in
set_option maxHeartbeats 4000000 in
theorem cp_666493_String_indexOf (l : Launch) (hl0 : l.stackTraces = false) (D : va_G) (I : FieldType → ClassId) (P666487 : List Nat) (F666488 : Nat → va_E) (qs666489 : Nat) (qb666490 : Nat) (bs666491 : List Int32) (p666492 : Int32) (hbs666491 : ∀ A s H, (gV D I).2.2.2.1 A s H → gSC qs666489 qb666490 bs666491 A s H) (nbs666491 : (bs666491.length : Int) ≤ 65535) (lbs666491 : gLB bs666491) (bp666492 : gB p666492 0 65535) : CtA (gV D I) l yJ0_indexOf_0f7a4 cJ0_indexOf_0f7a4 2 (some FieldType.int) 3 70 0 0 [.ref qs666489, .int p666492] (va_pl P666487 F666488) (pp_666493_String_indexOf D I P666487 F666488 qs666489 qb666490 bs666491 p666492) gNA := by
  refine CtA_ofF hl0 (by decide +kernel) (Nat.le_of_ble_eq_true rfl) ?_
  refine G_aload_n 0 dr_cJ0_indexOf_0f7a4_0 rfl ?_
  refine G_iload_n 1 dr_cJ0_indexOf_0f7a4_1 rfl ?_
  refine G_iconst 0 dr_cJ0_indexOf_0f7a4_2 (by decide +kernel) ?_
  refine Gw_callVk (As := [.int p666492, .int 0]) (gV_ok D I) (cp_666501_String_indexOf l hl0 D I P666487 F666488 qs666489 qb666490 bs666491 p666492 0 hbs666491 nbs666491 lbs666491 bp666492 (gB_w (gBl (show Int32.toInt 0 = 0 by decide)) (by decide) (by decide))) dr_cJ0_indexOf_0f7a4_3 ⟨wr_8_234, wr_1_21, wr_8_237, by decide, rfl, (Nat.le_of_ble_eq_true rfl), (Nat.le_of_ble_eq_true rfl)⟩ wr_8_235 wr_8_236 (fun _ _ _ h => (hbs666491 _ _ _ h).1) (show 0 + 0 ≤ 0 by first | omega | decide) (show 0 + 0 ≤ 0 by first | omega | decide) (Nat.le_of_ble_eq_true rfl) (fun r666612 w666613 dc666609 ds666610 hp666611 => ?_) (fun _ _ _ _ _ z => z.elim)
  obtain ⟨o666614, rfl, rfl, hdc, hds, bo666614, ht666615⟩ := hp666611
  change G _ _ _ _ _ _ _ (.int o666614 :: _) _ _ _
  refine G_widen (cs' := 0) (sl' := 0) (by omega) (by omega) ?_
  exact G_iretA dr_cJ0_indexOf_0f7a4_6 rfl (Nat.le_of_ble_eq_true rfl) (Nat.le_of_ble_eq_true rfl) ⟨o666614, rfl, rfl, (Nat.le_of_ble_eq_true rfl), (Nat.le_of_ble_eq_true rfl), bo666614, (fun R c1 => c1 o666614 bo666614 ht666615)⟩
/- tl_RInteger_stringSize_16: l3, l2; out: l3 -/
def tl_RInteger_stringSize_16 (a0 : Int32) (s1 : Int32) (s2 : Int32) (k : Nat) (e1 : Int32) : Prop := ∀ R : (Int32) → (Int32) → Nat → (Int32) → Prop,
  (∀ (l3_1 : Int32) (l2_1 : Int32), gB l3_1 1 10 → 10 ≤ l3_1.toInt → R l3_1 l2_1 42 (0 : Int32)) →
  (∀ (l3_1 : Int32) (l2_1 : Int32) (x1 : Int32) (x2 : Int32) (k : Nat) (e1 : Int32), gB l3_1 1 10 → l3_1.toInt < 10 → a0.toInt ≤ l2_1.toInt → x1 = (10 : Int32) * l2_1 → x2.toInt = l3_1.toInt + 1 → R x2 x1 k e1 → R l3_1 l2_1 k e1) →
  (∀ (l3_1 : Int32) (l2_1 : Int32), gB l3_1 1 10 → l3_1.toInt < 10 → l2_1.toInt < a0.toInt → R l3_1 l2_1 27 l3_1) →
  R s1 s2 k e1
/- tl_RInteger_stringSize_16_2: l3, l2; out: l3 -/
def tl_RInteger_stringSize_16_2 (c1 : Int32) (s1 : Int32) (s2 : Int32) (k : Nat) (e1 : Int32) : Prop := ∀ R : (Int32) → (Int32) → Nat → (Int32) → Prop,
  (∀ (l3_1 : Int32) (l2_1 : Int32), gB l3_1 1 10 → 10 ≤ l3_1.toInt → R l3_1 l2_1 42 (0 : Int32)) →
  (∀ (l3_1 : Int32) (l2_1 : Int32) (x1 : Int32) (x2 : Int32) (k : Nat) (e1 : Int32), gB l3_1 1 10 → l3_1.toInt < 10 → c1.toInt ≤ l2_1.toInt → x1 = (10 : Int32) * l2_1 → x2.toInt = l3_1.toInt + 1 → R x2 x1 k e1 → R l3_1 l2_1 k e1) →
  (∀ (l3_1 : Int32) (l2_1 : Int32), gB l3_1 1 10 → l3_1.toInt < 10 → l2_1.toInt < c1.toInt → R l3_1 l2_1 27 l3_1) →
  R s1 s2 k e1
/- tr_RInteger_stringSize: result -/
def tr_RInteger_stringSize (a0 : Int32) (o1 : Int32) : Prop := ∀ R : (Int32) → Prop,
  (a0.toInt < 0 → tl_RInteger_stringSize_16 a0 (1 : Int32) (-10 : Int32) 42 (0 : Int32) → R (11 : Int32)) →
  (∀ (x1 : Int32) (x2 : Int32), a0.toInt < 0 → tl_RInteger_stringSize_16 a0 (1 : Int32) (-10 : Int32) 27 x1 → x2.toInt = x1.toInt + 1 → R x2) →
  (∀ (x1 : Int32), 0 ≤ a0.toInt → x1 = -a0 → tl_RInteger_stringSize_16_2 x1 (1 : Int32) (-10 : Int32) 42 (0 : Int32) → R (10 : Int32)) →
  (∀ (x1 : Int32) (x2 : Int32) (x3 : Int32), 0 ≤ a0.toInt → x1 = -a0 → tl_RInteger_stringSize_16_2 x1 (1 : Int32) (-10 : Int32) 27 x2 → x3.toInt = x2.toInt + 0 → R x3) →
  R o1
abbrev ky_666646_Integer_stringSize : gKey := (cJ6_stringSize_0f7a4, 4, "java/lang/Integer", (some FieldType.int), [], "stringSize", fun _ _ => True)
def pp_666646_Integer_stringSize (D : va_G) (I : FieldType → ClassId) (P666643 : List Nat) (F666644 : Nat → va_E) (p666645 : Int32) : Option Value → va_W → Nat → Nat → Prop := fun r w dc ds => ∃ (o666777 : Int32), r = some (.int o666777) ∧ w = va_pl P666643 F666644 ∧ dc ≤ 0 ∧ ds ≤ 0 ∧ gB o666777 1 11 ∧ dgS p666645.toInt o666777.toInt ∧ tr_RInteger_stringSize p666645 o666777
set_option maxRecDepth 100000 in
set_option maxHeartbeats 4000000 in
theorem cp_666646_Integer_stringSize (l : Launch) (hl0 : l.stackTraces = false) (D : va_G) (I : FieldType → ClassId) (P666643 : List Nat) (F666644 : Nat → va_E) (p666645 : Int32)  : CtA (gV D I) l yJ6_stringSize_0f7a4 cJ6_stringSize_0f7a4 4 (some FieldType.int) 0 0 0 0 [.int p666645] (va_pl P666643 F666644) (pp_666646_Integer_stringSize D I P666643 F666644 p666645) gNA := by
  refine CtA_ofF hl0 (by decide +kernel) (Nat.le_of_ble_eq_true rfl) ?_
  have bp666645 := gB_any p666645
  refine G_iconst 1 dr_cJ6_stringSize_0f7a4_0 (by decide +kernel) ?_
  refine G_istore_n (L' := [(1, .int 1), (0, .int p666645)]) dr_cJ6_stringSize_0f7a4_1 (Nat.le_of_ble_eq_true rfl) rfl ?_
  refine G_iload_n 1 dr_cJ6_stringSize_0f7a4_2 rfl ?_
  refine G_if_lt 11 dr_cJ6_stringSize_0f7a4_3 (by decide +kernel) (fun hc666647 => ?_) (fun hc666647 => ?_)
  · have r666648 : p666645.toInt < 0 := gj_lt hc666647 (show Int32.toInt 0 = 0 by decide)
    have bp666645' : gB p666645 (-2147483648) (-1) := ⟨by omega, by omega⟩
    refine G_bipush (-10) dr_cJ6_stringSize_0f7a4_11 (by decide +kernel) ?_
    refine G_istore_n (L' := [(2, .int (-10)), (1, .int 1), (0, .int p666645)]) dr_cJ6_stringSize_0f7a4_13 (Nat.le_of_ble_eq_true rfl) rfl ?_
    refine G_iconst 1 dr_cJ6_stringSize_0f7a4_14 (by decide +kernel) ?_
    refine G_istore_n (L' := [(3, .int 1), (2, .int (-10)), (1, .int 1), (0, .int p666645)]) dr_cJ6_stringSize_0f7a4_15 (Nat.le_of_ble_eq_true rfl) rfl ?_
    have hlp16_666700 : ∀ (n16_666700 : Nat) (g666698 : Int32) (g666699 : Int32), gB g666698 1 10 → ssI g666698 g666699 → (∀ (k : Nat) (e1 : Int32), tl_RInteger_stringSize_16 p666645 g666698 g666699 k e1 → tl_RInteger_stringSize_16 p666645 (1 : Int32) (-10 : Int32) k e1) → ((11 : Int) - g666698.toInt).toNat < n16_666700 → G (gV D I) l (gRm 0 0 0 0) (gMA (gV D I) (pp_666646_Integer_stringSize D I P666643 F666644 p666645) gNA 0 0) ky_666646_Integer_stringSize 16 [(3, .int g666698), (2, .int g666699), (1, .int 1), (0, .int p666645)] [] (va_pl P666643 F666644) 0 0 := by
      intro n16_666700
      induction n16_666700 with
      | zero => intro g666698 g666699 bg666698 x666700 kt16_666700 hm16_666700; exact absurd hm16_666700 (Nat.not_lt_zero _)
      | succ n16_666700 ih16_666700 =>
        intro g666698 g666699 bg666698 x666700 kt16_666700 hm16_666700
        have bg666699 := gB_any g666699
        refine G_iload_n 0 dr_cJ6_stringSize_0f7a4_16 rfl ?_
        refine G_bipush 10 dr_cJ6_stringSize_0f7a4_17 (by decide +kernel) ?_
        refine G_icmp_ge 42 dr_cJ6_stringSize_0f7a4_19 (by decide +kernel) (fun hc666701 => ?_) (fun hc666701 => ?_)
        · have r666702 : 10 ≤ g666698.toInt := gj_leL hc666701 (show Int32.toInt 10 = 10 by decide)
          have bg666698' : gB g666698 10 10 := ⟨by omega, by omega⟩
          have hx666703 : tl_RInteger_stringSize_16 p666645 (1 : Int32) (-10 : Int32) 42 (0 : Int32) := kt16_666700 42 (0 : Int32) (fun R c1 c2 c3 => c1 g666698 g666699 bg666698 r666702)
          refine G_bipush 10 dr_cJ6_stringSize_0f7a4_42 (by decide +kernel) ?_
          refine G_iload_n 2 dr_cJ6_stringSize_0f7a4_44 rfl ?_
          refine G_iadd dr_cJ6_stringSize_0f7a4_45 ?_
          refine G_eqi (y := 11) (by decide) ?_
          exact G_iretA dr_cJ6_stringSize_0f7a4_46 rfl (Nat.le_of_ble_eq_true rfl) (Nat.le_of_ble_eq_true rfl) ⟨11, rfl, rfl, (Nat.le_of_ble_eq_true rfl), (Nat.le_of_ble_eq_true rfl), (gB_w (gBl (show Int32.toInt 11 = 11 by decide)) (by decide) (by decide)), (by have q10 : Int32.toInt 10 = 10 := (by decide); have q11 : Int32.toInt 11 = 11 := (by decide); first | exact dgS_p (x := -p666645.toInt) (by omega) rfl (dgB_up (ssI_r x666700 (by omega) (fun _ => by omega)) (by omega) (by omega)) | exact dgS_n (by omega) (by omega) (ssI_r x666700 (by omega) (fun _ => by omega))), (fun R c1 c2 c3 c4 => c1 r666648 hx666703)⟩
        · have r666704 : g666698.toInt < 10 := gj_nleL hc666701 (show Int32.toInt 10 = 10 by decide)
          have bg666698' : gB g666698 1 9 := ⟨by omega, by omega⟩
          refine G_iload_n 3 dr_cJ6_stringSize_0f7a4_22 rfl ?_
          refine G_iload_n 1 dr_cJ6_stringSize_0f7a4_23 rfl ?_
          refine G_icmp_le 31 dr_cJ6_stringSize_0f7a4_24 (by decide +kernel) (fun hc666705 => ?_) (fun hc666705 => ?_)
          · have r666706 : p666645.toInt ≤ g666699.toInt := gC_le hc666705
            refine G_bipush 10 dr_cJ6_stringSize_0f7a4_31 (by decide +kernel) ?_
            refine G_iload_n 1 dr_cJ6_stringSize_0f7a4_33 rfl ?_
            refine G_imul dr_cJ6_stringSize_0f7a4_34 (G_nam fun z666707 hz666707 => ?_)
            have bz666707 : gB z666707 (-2147483648) 2147483647 := gB_any z666707
            refine G_istore_n (L' := [(2, .int z666707), (3, .int g666698), (1, .int 1), (0, .int p666645)]) dr_cJ6_stringSize_0f7a4_35 (Nat.le_of_ble_eq_true rfl) rfl ?_
            obtain ⟨z666708, hz666708⟩ : ∃ z : Int32, z = g666698 + Int32.ofInt 1 := ⟨_, rfl⟩
            have ez666708 : z666708.toInt = g666698.toInt + 1 := gI_inc hz666708 (by decide) bg666698' (by decide) (by decide)
            have bz666708 : gB z666708 2 10 := ⟨by omega, by omega⟩
            refine G_iinc (L' := [(3, .int z666708), (2, .int z666707), (1, .int 1), (0, .int p666645)]) z666708 1 dr_cJ6_stringSize_0f7a4_36 rfl hz666708.symm (Nat.le_of_ble_eq_true rfl) rfl ?_
            refine G_goto 16 dr_cJ6_stringSize_0f7a4_39 (by decide +kernel) ?_
            exact ih16_666700 z666708 z666707 (gB_w bz666708 (by decide) (by decide)) (ssI_st x666700 (by omega) (by omega) hz666707) (fun k e1 ht => kt16_666700 k e1 (fun R c1 c2 c3 => c2 g666698 g666699 z666707 z666708 k e1 bg666698 r666704 r666706 hz666707 ez666708 (ht R c1 c2 c3))) (by have qa0 : Int32.toInt 1 = 1 := (by decide); omega)
          · have r666709 : g666699.toInt < p666645.toInt := gC_nle hc666705
            have bg666699' : gB g666699 (-2147483648) (-2) := ⟨by omega, by omega⟩
            have bp666645'' : gB p666645 (-2147483647) (-1) := ⟨by omega, by omega⟩
            have hx666710 : tl_RInteger_stringSize_16 p666645 (1 : Int32) (-10 : Int32) 27 g666698 := kt16_666700 27 g666698 (fun R c1 c2 c3 => c3 g666698 g666699 bg666698 r666704 r666709)
            refine G_iload_n 0 dr_cJ6_stringSize_0f7a4_27 rfl ?_
            refine G_iload_n 2 dr_cJ6_stringSize_0f7a4_28 rfl ?_
            refine G_iadd dr_cJ6_stringSize_0f7a4_29 (G_nam fun z666711 hz666711 => ?_)
            have ez666711 : z666711.toInt = g666698.toInt + 1 := by rw [gI_add hz666711 bg666698' (gBl (show Int32.toInt 1 = 1 by decide)) (by decide) (by decide), show Int32.toInt 1 = 1 from by decide]
            have bz666711 : gB z666711 2 10 := gB_add (gI_add hz666711 bg666698' (gBl (show Int32.toInt 1 = 1 by decide)) (by decide) (by decide)) bg666698' (gBl (show Int32.toInt 1 = 1 by decide)) (by decide) (by decide)
            exact G_iretA dr_cJ6_stringSize_0f7a4_30 rfl (Nat.le_of_ble_eq_true rfl) (Nat.le_of_ble_eq_true rfl) ⟨z666711, rfl, rfl, (Nat.le_of_ble_eq_true rfl), (Nat.le_of_ble_eq_true rfl), (gB_w bz666711 (by decide) (by decide)), (by have q10 : Int32.toInt 10 = 10 := (by decide); have q11 : Int32.toInt 11 = 11 := (by decide); first | exact dgS_p (x := -p666645.toInt) (by omega) rfl (dgB_up (ssI_r x666700 (by omega) (fun _ => by omega)) (by omega) (by omega)) | exact dgS_n (by omega) (by omega) (ssI_r x666700 (by omega) (fun _ => by omega))), (fun R c1 c2 c3 c4 => c2 g666698 z666711 r666648 hx666710 ez666711)⟩
    exact hlp16_666700 (((11 : Int) - 1).toNat + 1) 1 (-10) (gB_w (gBl (show Int32.toInt 1 = 1 by decide)) (by decide) (by decide)) ssI_0 (fun k e1 ht => ht) (Nat.lt_succ_self _)
  · have r666712 : 0 ≤ p666645.toInt := gj_nlt hc666647 (show Int32.toInt 0 = 0 by decide)
    have bp666645' : gB p666645 0 2147483647 := ⟨by omega, by omega⟩
    refine G_iconst 0 dr_cJ6_stringSize_0f7a4_6 (by decide +kernel) ?_
    refine G_istore_n (L' := [(1, .int 0), (0, .int p666645)]) dr_cJ6_stringSize_0f7a4_7 (Nat.le_of_ble_eq_true rfl) rfl ?_
    refine G_iload_n 1 dr_cJ6_stringSize_0f7a4_8 rfl ?_
    refine G_ineg dr_cJ6_stringSize_0f7a4_9 (G_nam fun z666713 hz666713 => ?_)
    have ez666713 : z666713.toInt = -p666645.toInt := gI_neg hz666713 bp666645' (by decide)
    have bz666713 : gB z666713 (-2147483647) 0 := ⟨by omega, by omega⟩
    refine G_istore_n (L' := [(0, .int z666713), (1, .int 0)]) dr_cJ6_stringSize_0f7a4_10 (Nat.le_of_ble_eq_true rfl) rfl ?_
    refine G_bipush (-10) dr_cJ6_stringSize_0f7a4_11 (by decide +kernel) ?_
    refine G_istore_n (L' := [(2, .int (-10)), (0, .int z666713), (1, .int 0)]) dr_cJ6_stringSize_0f7a4_13 (Nat.le_of_ble_eq_true rfl) rfl ?_
    refine G_iconst 1 dr_cJ6_stringSize_0f7a4_14 (by decide +kernel) ?_
    refine G_istore_n (L' := [(3, .int 1), (2, .int (-10)), (0, .int z666713), (1, .int 0)]) dr_cJ6_stringSize_0f7a4_15 (Nat.le_of_ble_eq_true rfl) rfl ?_
    have hlp16_666765 : ∀ (n16_666765 : Nat) (g666763 : Int32) (g666764 : Int32), gB g666763 1 10 → ssI g666763 g666764 → (∀ (k : Nat) (e1 : Int32), tl_RInteger_stringSize_16_2 z666713 g666763 g666764 k e1 → tl_RInteger_stringSize_16_2 z666713 (1 : Int32) (-10 : Int32) k e1) → ((11 : Int) - g666763.toInt).toNat < n16_666765 → G (gV D I) l (gRm 0 0 0 0) (gMA (gV D I) (pp_666646_Integer_stringSize D I P666643 F666644 p666645) gNA 0 0) ky_666646_Integer_stringSize 16 [(3, .int g666763), (2, .int g666764), (0, .int z666713), (1, .int 0)] [] (va_pl P666643 F666644) 0 0 := by
      intro n16_666765
      induction n16_666765 with
      | zero => intro g666763 g666764 bg666763 x666765 kt16_666765 hm16_666765; exact absurd hm16_666765 (Nat.not_lt_zero _)
      | succ n16_666765 ih16_666765 =>
        intro g666763 g666764 bg666763 x666765 kt16_666765 hm16_666765
        have bg666764 := gB_any g666764
        refine G_iload_n 0 dr_cJ6_stringSize_0f7a4_16 rfl ?_
        refine G_bipush 10 dr_cJ6_stringSize_0f7a4_17 (by decide +kernel) ?_
        refine G_icmp_ge 42 dr_cJ6_stringSize_0f7a4_19 (by decide +kernel) (fun hc666766 => ?_) (fun hc666766 => ?_)
        · have r666767 : 10 ≤ g666763.toInt := gj_leL hc666766 (show Int32.toInt 10 = 10 by decide)
          have bg666763' : gB g666763 10 10 := ⟨by omega, by omega⟩
          have hx666768 : tl_RInteger_stringSize_16_2 z666713 (1 : Int32) (-10 : Int32) 42 (0 : Int32) := kt16_666765 42 (0 : Int32) (fun R c1 c2 c3 => c1 g666763 g666764 bg666763 r666767)
          refine G_bipush 10 dr_cJ6_stringSize_0f7a4_42 (by decide +kernel) ?_
          refine G_iload_n 3 dr_cJ6_stringSize_0f7a4_44 rfl ?_
          refine G_iadd dr_cJ6_stringSize_0f7a4_45 ?_
          refine G_eqi (y := 10) (by decide) ?_
          exact G_iretA dr_cJ6_stringSize_0f7a4_46 rfl (Nat.le_of_ble_eq_true rfl) (Nat.le_of_ble_eq_true rfl) ⟨10, rfl, rfl, (Nat.le_of_ble_eq_true rfl), (Nat.le_of_ble_eq_true rfl), (gB_w (gBl (show Int32.toInt 10 = 10 by decide)) (by decide) (by decide)), (by have q10 : Int32.toInt 10 = 10 := (by decide); have q11 : Int32.toInt 11 = 11 := (by decide); first | exact dgS_p (x := -p666645.toInt) (by omega) rfl (dgB_up (ssI_r x666765 (by omega) (fun _ => by omega)) (by omega) (by omega)) | exact dgS_n (by omega) (by omega) (ssI_r x666765 (by omega) (fun _ => by omega))), (fun R c1 c2 c3 c4 => c3 z666713 r666712 hz666713 hx666768)⟩
        · have r666769 : g666763.toInt < 10 := gj_nleL hc666766 (show Int32.toInt 10 = 10 by decide)
          have bg666763' : gB g666763 1 9 := ⟨by omega, by omega⟩
          refine G_iload_n 2 dr_cJ6_stringSize_0f7a4_22 rfl ?_
          refine G_iload_n 1 dr_cJ6_stringSize_0f7a4_23 rfl ?_
          refine G_icmp_le 31 dr_cJ6_stringSize_0f7a4_24 (by decide +kernel) (fun hc666770 => ?_) (fun hc666770 => ?_)
          · have r666771 : z666713.toInt ≤ g666764.toInt := gC_le hc666770
            have bg666764' : gB g666764 (-2147483647) 2147483647 := ⟨by omega, by omega⟩
            refine G_bipush 10 dr_cJ6_stringSize_0f7a4_31 (by decide +kernel) ?_
            refine G_iload_n 1 dr_cJ6_stringSize_0f7a4_33 rfl ?_
            refine G_imul dr_cJ6_stringSize_0f7a4_34 (G_nam fun z666772 hz666772 => ?_)
            have bz666772 : gB z666772 (-2147483648) 2147483647 := gB_any z666772
            refine G_istore_n (L' := [(2, .int z666772), (3, .int g666763), (0, .int z666713), (1, .int 0)]) dr_cJ6_stringSize_0f7a4_35 (Nat.le_of_ble_eq_true rfl) rfl ?_
            obtain ⟨z666773, hz666773⟩ : ∃ z : Int32, z = g666763 + Int32.ofInt 1 := ⟨_, rfl⟩
            have ez666773 : z666773.toInt = g666763.toInt + 1 := gI_inc hz666773 (by decide) bg666763' (by decide) (by decide)
            have bz666773 : gB z666773 2 10 := ⟨by omega, by omega⟩
            refine G_iinc (L' := [(3, .int z666773), (2, .int z666772), (0, .int z666713), (1, .int 0)]) z666773 1 dr_cJ6_stringSize_0f7a4_36 rfl hz666773.symm (Nat.le_of_ble_eq_true rfl) rfl ?_
            refine G_goto 16 dr_cJ6_stringSize_0f7a4_39 (by decide +kernel) ?_
            exact ih16_666765 z666773 z666772 (gB_w bz666773 (by decide) (by decide)) (ssI_st x666765 (by omega) (by omega) hz666772) (fun k e1 ht => kt16_666765 k e1 (fun R c1 c2 c3 => c2 g666763 g666764 z666772 z666773 k e1 bg666763 r666769 r666771 hz666772 ez666773 (ht R c1 c2 c3))) (by have qa0 : Int32.toInt 0 = 0 := (by decide); omega)
          · have r666774 : g666764.toInt < z666713.toInt := gC_nle hc666770
            have bg666764' : gB g666764 (-2147483648) (-1) := ⟨by omega, by omega⟩
            have hx666775 : tl_RInteger_stringSize_16_2 z666713 (1 : Int32) (-10 : Int32) 27 g666763 := kt16_666765 27 g666763 (fun R c1 c2 c3 => c3 g666763 g666764 bg666763 r666769 r666774)
            refine G_iload_n 0 dr_cJ6_stringSize_0f7a4_27 rfl ?_
            refine G_iload_n 3 dr_cJ6_stringSize_0f7a4_28 rfl ?_
            refine G_iadd dr_cJ6_stringSize_0f7a4_29 (G_nam fun z666776 hz666776 => ?_)
            have ez666776 : z666776.toInt = g666763.toInt + 0 := by rw [gI_add hz666776 bg666763' (gBl (show Int32.toInt 0 = 0 by decide)) (by decide) (by decide), show Int32.toInt 0 = 0 from by decide]
            have bz666776 : gB z666776 1 9 := gB_add (gI_add hz666776 bg666763' (gBl (show Int32.toInt 0 = 0 by decide)) (by decide) (by decide)) bg666763' (gBl (show Int32.toInt 0 = 0 by decide)) (by decide) (by decide)
            exact G_iretA dr_cJ6_stringSize_0f7a4_30 rfl (Nat.le_of_ble_eq_true rfl) (Nat.le_of_ble_eq_true rfl) ⟨z666776, rfl, rfl, (Nat.le_of_ble_eq_true rfl), (Nat.le_of_ble_eq_true rfl), (gB_w bz666776 (by decide) (by decide)), (by have q10 : Int32.toInt 10 = 10 := (by decide); have q11 : Int32.toInt 11 = 11 := (by decide); first | exact dgS_p (x := -p666645.toInt) (by omega) rfl (dgB_up (ssI_r x666765 (by omega) (fun _ => by omega)) (by omega) (by omega)) | exact dgS_n (by omega) (by omega) (ssI_r x666765 (by omega) (fun _ => by omega))), (fun R c1 c2 c3 c4 => c4 z666713 g666763 z666776 r666712 hz666713 hx666775 ez666776)⟩
    exact hlp16_666765 (((11 : Int) - 1).toNat + 1) 1 (-10) (gB_w (gBl (show Int32.toInt 1 = 1 by decide)) (by decide) (by decide)) ssI_0 (fun k e1 ht => ht) (Nat.lt_succ_self _)
/- tl_RInteger_getChars_22: l0, l5, a2_v; out: l0, l5, a2_v -/
def tl_RInteger_getChars_22 (s1 : Int32) (s2 : Int32) (s3 : Nat → Int32) (k : Nat) (e1 : Int32) (e2 : Int32) (e3 : Nat → Int32) : Prop := ∀ R : (Int32) → (Int32) → (Nat → Int32) → Nat → (Int32) → (Int32) → (Nat → Int32) → Prop,
  (∀ (l0_1 : Int32) (l5_1 : Int32) (a2_v_1 : Nat → Int32), gB l0_1 (-2147483647) 0 → gB l5_1 0 16777216 → (-100) < l0_1.toInt → R l0_1 l5_1 a2_v_1 72 l0_1 l5_1 a2_v_1) →
  (∀ (l0_1 : Int32) (l5_1 : Int32) (a2_v_1 : Nat → Int32) (x1 : Int32) (x2 : Int32) (x3 : Int32) (x4 : Int32) (x5 : Int32) (x6 : Nat → Int32) (x7 : Int32) (x8 : Int32) (x9 : Nat → Int32) (k : Nat) (e1 : Int32) (e2 : Int32) (e3 : Nat → Int32), gB l0_1 (-2147483647) 0 → gB l5_1 0 16777216 → l0_1.toInt ≤ (-100) → x1.toInt = -((-l0_1.toInt) / 100) → x2.toInt = x1.toInt * 100 → x3.toInt = x2.toInt - l0_1.toInt → x4.toInt = l5_1.toInt + (-1) → x5 = dg_O x3.toNatClampNeg → x6 = upd a2_v_1 x4.toNatClampNeg (vp_nar .byte x5) → x7.toInt = x4.toInt + (-1) → x8 = dg_T x3.toNatClampNeg → x9 = upd x6 x7.toNatClampNeg (vp_nar .byte x8) → R x1 x7 x9 k e1 e2 e3 → R l0_1 l5_1 a2_v_1 k e1 e2 e3) →
  R s1 s2 s3 k e1 e2 e3
/- tl_RInteger_getChars_22_2: l5, l0, a2_v; out: l5, l0, a2_v -/
def tl_RInteger_getChars_22_2 (s1 : Int32) (s2 : Int32) (s3 : Nat → Int32) (k : Nat) (e1 : Int32) (e2 : Int32) (e3 : Nat → Int32) : Prop := ∀ R : (Int32) → (Int32) → (Nat → Int32) → Nat → (Int32) → (Int32) → (Nat → Int32) → Prop,
  (∀ (l5_1 : Int32) (l0_1 : Int32) (a2_v_1 : Nat → Int32), gB l5_1 0 16777216 → gB l0_1 (-2147483648) (-1) → (-100) < l0_1.toInt → R l5_1 l0_1 a2_v_1 72 l5_1 l0_1 a2_v_1) →
  (∀ (l5_1 : Int32) (l0_1 : Int32) (a2_v_1 : Nat → Int32) (x1 : Int32) (x2 : Int32) (x3 : Int32) (x4 : Int32) (x5 : Int32) (x6 : Nat → Int32) (x7 : Int32) (x8 : Int32) (x9 : Nat → Int32) (k : Nat) (e1 : Int32) (e2 : Int32) (e3 : Nat → Int32), gB l5_1 0 16777216 → gB l0_1 (-2147483648) (-1) → l0_1.toInt ≤ (-100) → x1.toInt = -((-l0_1.toInt) / 100) → x2.toInt = x1.toInt * 100 → x3.toInt = x2.toInt - l0_1.toInt → x4.toInt = l5_1.toInt + (-1) → x5 = dg_O x3.toNatClampNeg → x6 = upd a2_v_1 x4.toNatClampNeg (vp_nar .byte x5) → x7.toInt = x4.toInt + (-1) → x8 = dg_T x3.toNatClampNeg → x9 = upd x6 x7.toNatClampNeg (vp_nar .byte x8) → R x7 x1 x9 k e1 e2 e3 → R l5_1 l0_1 a2_v_1 k e1 e2 e3) →
  R s1 s2 s3 k e1 e2 e3
/- tr_RInteger_getChars: result, a.2.[] -/
def tr_RInteger_getChars (a0 : Int32) (a1 : Int32) (a2_v : Nat → Int32) (o1 : Int32) (o2 : Nat → Int32) : Prop := ∀ R : (Int32) → (Nat → Int32) → Prop,
  (∀ (x1 : Int32) (x2 : Int32) (x3 : Int32) (x4 : Nat → Int32) (x5 : Int32) (x6 : Int32) (x7 : Int32) (x8 : Nat → Int32), 0 ≤ a0.toInt → x1 = -a0 → tl_RInteger_getChars_22 x1 a1 a2_v 72 x2 x3 x4 → x5.toInt = x3.toInt + (-1) → x6 = -x2 → x7 = dg_O x6.toNatClampNeg → x8 = upd x4 x5.toNatClampNeg (vp_nar .byte x7) → (-9) ≤ x2.toInt → R x5 x8) →
  (∀ (x1 : Int32) (x2 : Int32) (x3 : Int32) (x4 : Nat → Int32) (x5 : Int32) (x6 : Int32) (x7 : Int32) (x8 : Nat → Int32) (x9 : Int32) (x10 : Int32) (x11 : Int32) (x12 : Nat → Int32), 0 ≤ a0.toInt → x1 = -a0 → tl_RInteger_getChars_22 x1 a1 a2_v 72 x2 x3 x4 → x5.toInt = x3.toInt + (-1) → x6 = -x2 → x7 = dg_O x6.toNatClampNeg → x8 = upd x4 x5.toNatClampNeg (vp_nar .byte x7) → x2.toInt < (-9) → x9.toInt = x5.toInt + (-1) → x10 = -x2 → x11 = dg_T x10.toNatClampNeg → x12 = upd x8 x9.toNatClampNeg (vp_nar .byte x11) → R x9 x12) →
  (∀ (x1 : Int32) (x2 : Int32) (x3 : Nat → Int32) (x4 : Int32) (x5 : Int32) (x6 : Int32) (x7 : Nat → Int32) (x8 : Int32) (x9 : Nat → Int32), a0.toInt < 0 → tl_RInteger_getChars_22_2 a1 a0 a2_v 72 x1 x2 x3 → x4.toInt = x1.toInt + (-1) → x5 = -x2 → x6 = dg_O x5.toNatClampNeg → x7 = upd x3 x4.toNatClampNeg (vp_nar .byte x6) → (-9) ≤ x2.toInt → x8.toInt = x4.toInt + (-1) → x9 = upd x7 x8.toNatClampNeg (vp_nar .byte 45) → R x8 x9) →
  (∀ (x1 : Int32) (x2 : Int32) (x3 : Nat → Int32) (x4 : Int32) (x5 : Int32) (x6 : Int32) (x7 : Nat → Int32) (x8 : Int32) (x9 : Int32) (x10 : Int32) (x11 : Nat → Int32) (x12 : Int32) (x13 : Nat → Int32), a0.toInt < 0 → tl_RInteger_getChars_22_2 a1 a0 a2_v 72 x1 x2 x3 → x4.toInt = x1.toInt + (-1) → x5 = -x2 → x6 = dg_O x5.toNatClampNeg → x7 = upd x3 x4.toNatClampNeg (vp_nar .byte x6) → x2.toInt < (-9) → x8.toInt = x4.toInt + (-1) → x9 = -x2 → x10 = dg_T x9.toNatClampNeg → x11 = upd x7 x8.toNatClampNeg (vp_nar .byte x10) → x12.toInt = x8.toInt + (-1) → x13 = upd x11 x12.toNatClampNeg (vp_nar .byte 45) → R x12 x13) →
  R o1 o2
