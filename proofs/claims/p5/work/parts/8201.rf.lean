theorem dr_cJ5_length_8abf5_0 : decode cJ5_length_8abf5 0 = .ok (.aload_n 0, 1) := by decide +kernel
theorem dr_cJ5_length_8abf5_1 : decode cJ5_length_8abf5 1 = .ok (.getfield 79, 3) := by decide +kernel
theorem wr_7_64 : (Jvm.Cond.fieldLink "java/lang/AbstractStringBuilder" (79 : Nat) "java/lang/AbstractStringBuilder" "count" "I") ∈ gw := gw_7 64 rfl rfl
theorem dr_cJ5_length_8abf5_4 : decode cJ5_length_8abf5 4 = .ok (.ireturn, 1) := by decide +kernel
theorem dr_cJ4_length_8abf5_0 : decode cJ4_length_8abf5 0 = .ok (.aload_n 0, 1) := by decide +kernel
theorem dr_cJ4_length_8abf5_1 : decode cJ4_length_8abf5 1 = .ok (.invokespecial 343, 3) := by decide +kernel
theorem wr_8_86 : (Jvm.Cond.methodLink "java/lang/StringBuilder" (343 : Nat) ({ cls := "java/lang/AbstractStringBuilder", name := "length", desc := "()I" } : Jvm.MethodName)) ∈ gw := gw_8 86 rfl rfl
theorem wr_1_19 : (Jvm.Cond.initialized "java/lang/AbstractStringBuilder") ∈ gw := gw_1 19 rfl rfl
theorem wr_8_87 : (Jvm.Cond.code ({ cls := "java/lang/AbstractStringBuilder", name := "length", desc := "()I" } : Jvm.MethodName) prog_21_method_6_code (1 : Nat) (Option.some Jvm.ClassFile.FieldType.int)) ∈ gw := gw_8 87 rfl rfl
theorem wr_8_81 : (Jvm.Cond.instanceMethod ({ cls := "java/lang/AbstractStringBuilder", name := "length", desc := "()I" } : Jvm.MethodName)) ∈ gw := gw_8 81 rfl rfl
theorem wr_8_82 : (Jvm.Cond.sameMethod "java/lang/AbstractStringBuilder" "java/lang/AbstractStringBuilder" "length" "()I") ∈ gw := gw_8 82 rfl rfl
theorem wr_7_73 : (Jvm.Cond.superclass "java/lang/StringBuilder" "java/lang/AbstractStringBuilder") ∈ gw := gw_7 73 rfl rfl
theorem wr_7_44 : (Jvm.Cond.instantiable "java/lang/StringBuilder" (4 : Nat)) ∈ gw := gw_7 44 rfl rfl
theorem dr_cJ4_length_8abf5_4 : decode cJ4_length_8abf5 4 = .ok (.ireturn, 1) := by decide +kernel
theorem dr_cJ0_checkIndex_df160_0 : decode cJ0_checkIndex_df160 0 = .ok (.iload_n 0, 1) := by decide +kernel
theorem dr_cJ0_checkIndex_df160_1 : decode cJ0_checkIndex_df160 1 = .ok (.iload_n 1, 1) := by decide +kernel
theorem dr_cJ0_checkIndex_df160_2 : decode cJ0_checkIndex_df160 2 = .ok (.getstatic 1053, 3) := by decide +kernel
theorem wr_3_81 : (Jvm.Cond.fieldLink "java/lang/String" (1053 : Nat) "jdk/internal/util/Preconditions" "SIOOBE_FORMATTER" "Ljava/util/function/BiFunction;") ∈ gw := gw_3 81 rfl rfl
theorem dr_cJ0_checkIndex_df160_5 : decode cJ0_checkIndex_df160 5 = .ok (.invokestatic 1059, 3) := by decide +kernel
theorem wr_3_83 : (Jvm.Cond.methodLink "java/lang/String" (1059 : Nat) ({ cls := "jdk/internal/util/Preconditions", name := "checkIndex", desc := "(IILjava/util/function/BiFunction;)I" } : Jvm.MethodName)) ∈ gw := gw_3 83 rfl rfl
theorem dr_cJ0_checkIndex_df160_8 : decode cJ0_checkIndex_df160 8 = .ok (.pop, 1) := by decide +kernel
theorem dr_cJ0_checkIndex_df160_9 : decode cJ0_checkIndex_df160 9 = .ok (.return_, 1) := by decide +kernel
theorem dr_cJ5_charAt_5068e_0 : decode cJ5_charAt_5068e 0 = .ok (.aload_n 0, 1) := by decide +kernel
theorem dr_cJ5_charAt_5068e_1 : decode cJ5_charAt_5068e 1 = .ok (.getfield 22, 3) := by decide +kernel
theorem wr_7_61 : (Jvm.Cond.fieldLink "java/lang/AbstractStringBuilder" (22 : Nat) "java/lang/AbstractStringBuilder" "coder" "B") ∈ gw := gw_7 61 rfl rfl
theorem dr_cJ5_charAt_5068e_4 : decode cJ5_charAt_5068e 4 = .ok (.istore_n 2, 1) := by decide +kernel
theorem dr_cJ5_charAt_5068e_5 : decode cJ5_charAt_5068e 5 = .ok (.aload_n 0, 1) := by decide +kernel
theorem dr_cJ5_charAt_5068e_6 : decode cJ5_charAt_5068e 6 = .ok (.getfield 15, 3) := by decide +kernel
theorem wr_7_60 : (Jvm.Cond.fieldLink "java/lang/AbstractStringBuilder" (15 : Nat) "java/lang/AbstractStringBuilder" "value" "[B") ∈ gw := gw_7 60 rfl rfl
theorem dr_cJ5_charAt_5068e_9 : decode cJ5_charAt_5068e 9 = .ok (.astore_n 3, 1) := by decide +kernel
theorem dr_cJ5_charAt_5068e_10 : decode cJ5_charAt_5068e 10 = .ok (.aload_n 0, 1) := by decide +kernel
theorem dr_cJ5_charAt_5068e_11 : decode cJ5_charAt_5068e 11 = .ok (.getfield 79, 3) := by decide +kernel
theorem dr_cJ5_charAt_5068e_14 : decode cJ5_charAt_5068e 14 = .ok (.aload_n 3, 1) := by decide +kernel
theorem dr_cJ5_charAt_5068e_15 : decode cJ5_charAt_5068e 15 = .ok (.arraylength, 1) := by decide +kernel
theorem dr_cJ5_charAt_5068e_16 : decode cJ5_charAt_5068e 16 = .ok (.iload_n 2, 1) := by decide +kernel
theorem dr_cJ5_charAt_5068e_17 : decode cJ5_charAt_5068e 17 = .ok (.ishr, 1) := by decide +kernel
theorem dr_cJ5_charAt_5068e_18 : decode cJ5_charAt_5068e 18 = .ok (.invokestatic 138, 3) := by decide +kernel
theorem wr_11_212 : (Jvm.Cond.methodLink "java/lang/AbstractStringBuilder" (138 : Nat) ({ cls := "java/lang/Math", name := "min", desc := "(II)I" } : Jvm.MethodName)) ∈ gw := gw_11 212 rfl rfl
theorem dr_cJ5_charAt_5068e_21 : decode cJ5_charAt_5068e 21 = .ok (.istore 4, 2) := by decide +kernel
theorem dr_cJ5_charAt_5068e_23 : decode cJ5_charAt_5068e 23 = .ok (.iload_n 1, 1) := by decide +kernel
theorem dr_cJ5_charAt_5068e_24 : decode cJ5_charAt_5068e 24 = .ok (.iload 4, 2) := by decide +kernel
theorem dr_cJ5_charAt_5068e_26 : decode cJ5_charAt_5068e 26 = .ok (.invokestatic 144, 3) := by decide +kernel
theorem wr_11_213 : (Jvm.Cond.methodLink "java/lang/AbstractStringBuilder" (144 : Nat) ({ cls := "java/lang/String", name := "checkIndex", desc := "(II)V" } : Jvm.MethodName)) ∈ gw := gw_11 213 rfl rfl
theorem wr_1_21 : (Jvm.Cond.initialized "java/lang/String") ∈ gw := gw_1 21 rfl rfl
theorem wr_3_80 : (Jvm.Cond.code ({ cls := "java/lang/String", name := "checkIndex", desc := "(II)V" } : Jvm.MethodName) prog_34_method_155_code (2 : Nat) (Option.none : Option Jvm.ClassFile.FieldType)) ∈ gw := gw_3 80 rfl rfl
theorem wr_3_79 : (Jvm.Cond.static ({ cls := "java/lang/String", name := "checkIndex", desc := "(II)V" } : Jvm.MethodName)) ∈ gw := gw_3 79 rfl rfl
theorem dr_cJ5_charAt_5068e_29 : decode cJ5_charAt_5068e 29 = .ok (.iload_n 2, 1) := by decide +kernel
theorem dr_cJ5_charAt_5068e_30 : decode cJ5_charAt_5068e 30 = .ok (.ifCond .ne 12, 3) := by decide +kernel
theorem dr_cJ5_charAt_5068e_33 : decode cJ5_charAt_5068e 33 = .ok (.aload_n 3, 1) := by decide +kernel
theorem dr_cJ5_charAt_5068e_34 : decode cJ5_charAt_5068e 34 = .ok (.iload_n 1, 1) := by decide +kernel
theorem dr_cJ5_charAt_5068e_35 : decode cJ5_charAt_5068e 35 = .ok (.baload, 1) := by decide +kernel
theorem dr_cJ5_charAt_5068e_36 : decode cJ5_charAt_5068e 36 = .ok (.sipush 255, 3) := by decide +kernel
theorem dr_cJ5_charAt_5068e_39 : decode cJ5_charAt_5068e 39 = .ok (.iand, 1) := by decide +kernel
theorem dr_cJ5_charAt_5068e_40 : decode cJ5_charAt_5068e 40 = .ok (.i2c, 1) := by decide +kernel
theorem dr_cJ5_charAt_5068e_41 : decode cJ5_charAt_5068e 41 = .ok (.ireturn, 1) := by decide +kernel
theorem dr_cJ4_charAt_5068e_0 : decode cJ4_charAt_5068e 0 = .ok (.aload_n 0, 1) := by decide +kernel
theorem dr_cJ4_charAt_5068e_1 : decode cJ4_charAt_5068e 1 = .ok (.iload_n 1, 1) := by decide +kernel
theorem dr_cJ4_charAt_5068e_2 : decode cJ4_charAt_5068e 2 = .ok (.invokespecial 329, 3) := by decide +kernel
theorem wr_11_209 : (Jvm.Cond.methodLink "java/lang/StringBuilder" (329 : Nat) ({ cls := "java/lang/AbstractStringBuilder", name := "charAt", desc := "(I)C" } : Jvm.MethodName)) ∈ gw := gw_11 209 rfl rfl
theorem wr_11_211 : (Jvm.Cond.code ({ cls := "java/lang/AbstractStringBuilder", name := "charAt", desc := "(I)C" } : Jvm.MethodName) prog_21_method_14_code (5 : Nat) (Option.some Jvm.ClassFile.FieldType.char)) ∈ gw := gw_11 211 rfl rfl
theorem wr_11_210 : (Jvm.Cond.instanceMethod ({ cls := "java/lang/AbstractStringBuilder", name := "charAt", desc := "(I)C" } : Jvm.MethodName)) ∈ gw := gw_11 210 rfl rfl
theorem wr_11_231 : (Jvm.Cond.sameMethod "java/lang/AbstractStringBuilder" "java/lang/AbstractStringBuilder" "charAt" "(I)C") ∈ gw := gw_11 231 rfl rfl
theorem dr_cJ4_charAt_5068e_5 : decode cJ4_charAt_5068e 5 = .ok (.ireturn, 1) := by decide +kernel
theorem dr_cJ5_ensureCapacityInternal_d00df_0 : decode cJ5_ensureCapacityInternal_d00df 0 = .ok (.aload_n 0, 1) := by decide +kernel
theorem dr_cJ5_ensureCapacityInternal_d00df_1 : decode cJ5_ensureCapacityInternal_d00df 1 = .ok (.getfield 15, 3) := by decide +kernel
theorem dr_cJ5_ensureCapacityInternal_d00df_4 : decode cJ5_ensureCapacityInternal_d00df 4 = .ok (.arraylength, 1) := by decide +kernel
theorem dr_cJ5_ensureCapacityInternal_d00df_5 : decode cJ5_ensureCapacityInternal_d00df 5 = .ok (.aload_n 0, 1) := by decide +kernel
theorem dr_cJ5_ensureCapacityInternal_d00df_6 : decode cJ5_ensureCapacityInternal_d00df 6 = .ok (.getfield 22, 3) := by decide +kernel
theorem dr_cJ5_ensureCapacityInternal_d00df_9 : decode cJ5_ensureCapacityInternal_d00df 9 = .ok (.ishr, 1) := by decide +kernel
theorem dr_cJ5_ensureCapacityInternal_d00df_10 : decode cJ5_ensureCapacityInternal_d00df 10 = .ok (.istore_n 2, 1) := by decide +kernel
theorem dr_cJ5_ensureCapacityInternal_d00df_11 : decode cJ5_ensureCapacityInternal_d00df 11 = .ok (.iload_n 1, 1) := by decide +kernel
theorem dr_cJ5_ensureCapacityInternal_d00df_12 : decode cJ5_ensureCapacityInternal_d00df 12 = .ok (.iload_n 2, 1) := by decide +kernel
theorem dr_cJ5_ensureCapacityInternal_d00df_13 : decode cJ5_ensureCapacityInternal_d00df 13 = .ok (.isub, 1) := by decide +kernel
theorem dr_cJ5_ensureCapacityInternal_d00df_14 : decode cJ5_ensureCapacityInternal_d00df 14 = .ok (.ifCond .le 24, 3) := by decide +kernel
theorem dr_cJ5_ensureCapacityInternal_d00df_38 : decode cJ5_ensureCapacityInternal_d00df 38 = .ok (.return_, 1) := by decide +kernel
theorem dr_cJ5_isLatin1_aae02_0 : decode cJ5_isLatin1_aae02 0 = .ok (.getstatic 18, 3) := by decide +kernel
theorem wr_7_52 : (Jvm.Cond.fieldLink "java/lang/AbstractStringBuilder" (18 : Nat) "java/lang/String" "COMPACT_STRINGS" "Z") ∈ gw := gw_7 52 rfl rfl
theorem dr_cJ5_isLatin1_aae02_3 : decode cJ5_isLatin1_aae02 3 = .ok (.ifCond .eq 14, 3) := by decide +kernel
theorem dr_cJ5_isLatin1_aae02_6 : decode cJ5_isLatin1_aae02 6 = .ok (.aload_n 0, 1) := by decide +kernel
theorem dr_cJ5_isLatin1_aae02_7 : decode cJ5_isLatin1_aae02 7 = .ok (.getfield 22, 3) := by decide +kernel
theorem dr_cJ5_isLatin1_aae02_10 : decode cJ5_isLatin1_aae02 10 = .ok (.ifCond .ne 7, 3) := by decide +kernel
theorem dr_cJ5_isLatin1_aae02_13 : decode cJ5_isLatin1_aae02 13 = .ok (.iconst 1, 1) := by decide +kernel
theorem dr_cJ5_isLatin1_aae02_14 : decode cJ5_isLatin1_aae02 14 = .ok (.goto 4, 3) := by decide +kernel
theorem dr_cJ5_isLatin1_aae02_18 : decode cJ5_isLatin1_aae02 18 = .ok (.ireturn, 1) := by decide +kernel
theorem dr_cJ1_canEncode_fc78d_0 : decode cJ1_canEncode_fc78d 0 = .ok (.iload_n 0, 1) := by decide +kernel
theorem dr_cJ1_canEncode_fc78d_1 : decode cJ1_canEncode_fc78d 1 = .ok (.sipush 255, 3) := by decide +kernel
theorem dr_cJ1_canEncode_fc78d_4 : decode cJ1_canEncode_fc78d 4 = .ok (.if_icmp .gt 7, 3) := by decide +kernel
theorem dr_cJ1_canEncode_fc78d_11 : decode cJ1_canEncode_fc78d 11 = .ok (.iconst 0, 1) := by decide +kernel
theorem dr_cJ1_canEncode_fc78d_12 : decode cJ1_canEncode_fc78d 12 = .ok (.ireturn, 1) := by decide +kernel
theorem dr_cJ1_canEncode_fc78d_7 : decode cJ1_canEncode_fc78d 7 = .ok (.iconst 1, 1) := by decide +kernel
theorem dr_cJ1_canEncode_fc78d_8 : decode cJ1_canEncode_fc78d 8 = .ok (.goto 4, 3) := by decide +kernel
theorem dr_cJ5_append_3fe6f_0 : decode cJ5_append_3fe6f 0 = .ok (.aload_n 0, 1) := by decide +kernel
theorem dr_cJ5_append_3fe6f_1 : decode cJ5_append_3fe6f 1 = .ok (.aload_n 0, 1) := by decide +kernel
theorem dr_cJ5_append_3fe6f_2 : decode cJ5_append_3fe6f 2 = .ok (.getfield 79, 3) := by decide +kernel
theorem dr_cJ5_append_3fe6f_5 : decode cJ5_append_3fe6f 5 = .ok (.iconst 1, 1) := by decide +kernel
theorem dr_cJ5_append_3fe6f_6 : decode cJ5_append_3fe6f 6 = .ok (.iadd, 1) := by decide +kernel
theorem dr_cJ5_append_3fe6f_7 : decode cJ5_append_3fe6f 7 = .ok (.invokevirtual 100, 3) := by decide +kernel
theorem wr_8_0 : (Jvm.Cond.methodLink "java/lang/AbstractStringBuilder" (100 : Nat) ({ cls := "java/lang/AbstractStringBuilder", name := "ensureCapacityInternal", desc := "(I)V" } : Jvm.MethodName)) ∈ gw := gw_8 0 rfl rfl
theorem wr_8_3 : (Jvm.Cond.code ({ cls := "java/lang/AbstractStringBuilder", name := "ensureCapacityInternal", desc := "(I)V" } : Jvm.MethodName) prog_21_method_9_code (3 : Nat) (Option.none : Option Jvm.ClassFile.FieldType)) ∈ gw := gw_8 3 rfl rfl
theorem wr_8_2 : (Jvm.Cond.instanceMethod ({ cls := "java/lang/AbstractStringBuilder", name := "ensureCapacityInternal", desc := "(I)V" } : Jvm.MethodName)) ∈ gw := gw_8 2 rfl rfl
theorem wr_s_0 : Cond.selects "java/lang/StringBuilder" ⟨"java/lang/AbstractStringBuilder", "ensureCapacityInternal", "(I)V"⟩ ⟨"java/lang/AbstractStringBuilder", "ensureCapacityInternal", "(I)V"⟩ ∈ gw := gw_s _ 0 rfl rfl rfl
theorem dr_cJ5_append_3fe6f_10 : decode cJ5_append_3fe6f 10 = .ok (.aload_n 0, 1) := by decide +kernel
theorem dr_cJ5_append_3fe6f_11 : decode cJ5_append_3fe6f 11 = .ok (.invokevirtual 83, 3) := by decide +kernel
theorem wr_8_29 : (Jvm.Cond.methodLink "java/lang/AbstractStringBuilder" (83 : Nat) ({ cls := "java/lang/AbstractStringBuilder", name := "isLatin1", desc := "()Z" } : Jvm.MethodName)) ∈ gw := gw_8 29 rfl rfl
theorem wr_8_33 : (Jvm.Cond.code ({ cls := "java/lang/AbstractStringBuilder", name := "isLatin1", desc := "()Z" } : Jvm.MethodName) prog_21_method_68_code (1 : Nat) (Option.some Jvm.ClassFile.FieldType.boolean)) ∈ gw := gw_8 33 rfl rfl
theorem wr_8_30 : (Jvm.Cond.instanceMethod ({ cls := "java/lang/AbstractStringBuilder", name := "isLatin1", desc := "()Z" } : Jvm.MethodName)) ∈ gw := gw_8 30 rfl rfl
theorem wr_8_32 : (Jvm.Cond.selects "java/lang/StringBuilder" ({ cls := "java/lang/AbstractStringBuilder", name := "isLatin1", desc := "()Z" } : Jvm.MethodName) ({ cls := "java/lang/AbstractStringBuilder", name := "isLatin1", desc := "()Z" } : Jvm.MethodName)) ∈ gw := gw_8 32 rfl rfl
theorem dr_cJ5_append_3fe6f_14 : decode cJ5_append_3fe6f 14 = .ok (.ifCond .eq 31, 3) := by decide +kernel
theorem dr_cJ5_append_3fe6f_17 : decode cJ5_append_3fe6f 17 = .ok (.iload_n 1, 1) := by decide +kernel
theorem dr_cJ5_append_3fe6f_18 : decode cJ5_append_3fe6f 18 = .ok (.invokestatic 191, 3) := by decide +kernel
theorem wr_8_34 : (Jvm.Cond.methodLink "java/lang/AbstractStringBuilder" (191 : Nat) ({ cls := "java/lang/StringLatin1", name := "canEncode", desc := "(C)Z" } : Jvm.MethodName)) ∈ gw := gw_8 34 rfl rfl
theorem wr_1_28 : (Jvm.Cond.initialized "java/lang/StringLatin1") ∈ gw := gw_1 28 rfl rfl
theorem wr_8_36 : (Jvm.Cond.code ({ cls := "java/lang/StringLatin1", name := "canEncode", desc := "(C)Z" } : Jvm.MethodName) prog_37_method_3_code (1 : Nat) (Option.some Jvm.ClassFile.FieldType.boolean)) ∈ gw := gw_8 36 rfl rfl
theorem wr_8_35 : (Jvm.Cond.static ({ cls := "java/lang/StringLatin1", name := "canEncode", desc := "(C)Z" } : Jvm.MethodName)) ∈ gw := gw_8 35 rfl rfl
theorem dr_cJ5_append_3fe6f_21 : decode cJ5_append_3fe6f 21 = .ok (.ifCond .eq 24, 3) := by decide +kernel
theorem dr_cJ5_append_3fe6f_24 : decode cJ5_append_3fe6f 24 = .ok (.aload_n 0, 1) := by decide +kernel
theorem dr_cJ5_append_3fe6f_25 : decode cJ5_append_3fe6f 25 = .ok (.getfield 15, 3) := by decide +kernel
theorem dr_cJ5_append_3fe6f_28 : decode cJ5_append_3fe6f 28 = .ok (.aload_n 0, 1) := by decide +kernel
theorem dr_cJ5_append_3fe6f_29 : decode cJ5_append_3fe6f 29 = .ok (.dup, 1) := by decide +kernel
theorem dr_cJ5_append_3fe6f_30 : decode cJ5_append_3fe6f 30 = .ok (.getfield 79, 3) := by decide +kernel
theorem dr_cJ5_append_3fe6f_33 : decode cJ5_append_3fe6f 33 = .ok (.dup_x1, 1) := by decide +kernel
theorem dr_cJ5_append_3fe6f_34 : decode cJ5_append_3fe6f 34 = .ok (.iconst 1, 1) := by decide +kernel
theorem dr_cJ5_append_3fe6f_35 : decode cJ5_append_3fe6f 35 = .ok (.iadd, 1) := by decide +kernel
theorem dr_cJ5_append_3fe6f_36 : decode cJ5_append_3fe6f 36 = .ok (.putfield 79, 3) := by decide +kernel
theorem dr_cJ5_append_3fe6f_39 : decode cJ5_append_3fe6f 39 = .ok (.iload_n 1, 1) := by decide +kernel
theorem dr_cJ5_append_3fe6f_40 : decode cJ5_append_3fe6f 40 = .ok (.i2b, 1) := by decide +kernel
theorem dr_cJ5_append_3fe6f_41 : decode cJ5_append_3fe6f 41 = .ok (.bastore, 1) := by decide +kernel
theorem dr_cJ5_append_3fe6f_42 : decode cJ5_append_3fe6f 42 = .ok (.goto 33, 3) := by decide +kernel
theorem dr_cJ5_append_3fe6f_75 : decode cJ5_append_3fe6f 75 = .ok (.aload_n 0, 1) := by decide +kernel
theorem dr_cJ5_append_3fe6f_76 : decode cJ5_append_3fe6f 76 = .ok (.areturn, 1) := by decide +kernel
theorem dr_cJ4_append_cf468_0 : decode cJ4_append_cf468 0 = .ok (.aload_n 0, 1) := by decide +kernel
theorem dr_cJ4_append_cf468_1 : decode cJ4_append_cf468 1 = .ok (.iload_n 1, 1) := by decide +kernel
theorem dr_cJ4_append_cf468_2 : decode cJ4_append_cf468 2 = .ok (.invokespecial 50, 3) := by decide +kernel
theorem wr_7_237 : (Jvm.Cond.methodLink "java/lang/StringBuilder" (50 : Nat) ({ cls := "java/lang/AbstractStringBuilder", name := "append", desc := "(C)Ljava/lang/AbstractStringBuilder;" } : Jvm.MethodName)) ∈ gw := gw_7 237 rfl rfl
theorem wr_7_239 : (Jvm.Cond.code ({ cls := "java/lang/AbstractStringBuilder", name := "append", desc := "(C)Ljava/lang/AbstractStringBuilder;" } : Jvm.MethodName) prog_21_method_31_code (2 : Nat) (Option.some (Jvm.ClassFile.FieldType.object "java/lang/AbstractStringBuilder"))) ∈ gw := gw_7 239 rfl rfl
theorem wr_7_238 : (Jvm.Cond.instanceMethod ({ cls := "java/lang/AbstractStringBuilder", name := "append", desc := "(C)Ljava/lang/AbstractStringBuilder;" } : Jvm.MethodName)) ∈ gw := gw_7 238 rfl rfl
theorem wr_11_220 : (Jvm.Cond.sameMethod "java/lang/AbstractStringBuilder" "java/lang/AbstractStringBuilder" "append" "(C)Ljava/lang/AbstractStringBuilder;") ∈ gw := gw_11 220 rfl rfl
theorem dr_cJ4_append_cf468_5 : decode cJ4_append_cf468 5 = .ok (.pop, 1) := by decide +kernel
theorem dr_cJ4_append_cf468_6 : decode cJ4_append_cf468 6 = .ok (.aload_n 0, 1) := by decide +kernel
theorem dr_cJ4_append_cf468_7 : decode cJ4_append_cf468 7 = .ok (.areturn, 1) := by decide +kernel
theorem dr_cJ5_newCapacity_0f7a4_0 : decode cJ5_newCapacity_0f7a4 0 = .ok (.aload_n 0, 1) := by decide +kernel
theorem dr_cJ5_newCapacity_0f7a4_1 : decode cJ5_newCapacity_0f7a4 1 = .ok (.getfield 15, 3) := by decide +kernel
theorem dr_cJ5_newCapacity_0f7a4_4 : decode cJ5_newCapacity_0f7a4 4 = .ok (.arraylength, 1) := by decide +kernel
theorem dr_cJ5_newCapacity_0f7a4_5 : decode cJ5_newCapacity_0f7a4 5 = .ok (.istore_n 2, 1) := by decide +kernel
theorem dr_cJ5_newCapacity_0f7a4_6 : decode cJ5_newCapacity_0f7a4 6 = .ok (.iload_n 1, 1) := by decide +kernel
theorem dr_cJ5_newCapacity_0f7a4_7 : decode cJ5_newCapacity_0f7a4 7 = .ok (.aload_n 0, 1) := by decide +kernel
theorem dr_cJ5_newCapacity_0f7a4_8 : decode cJ5_newCapacity_0f7a4 8 = .ok (.getfield 22, 3) := by decide +kernel
theorem dr_cJ5_newCapacity_0f7a4_11 : decode cJ5_newCapacity_0f7a4 11 = .ok (.ishl, 1) := by decide +kernel
theorem dr_cJ5_newCapacity_0f7a4_12 : decode cJ5_newCapacity_0f7a4 12 = .ok (.istore_n 3, 1) := by decide +kernel
theorem dr_cJ5_newCapacity_0f7a4_13 : decode cJ5_newCapacity_0f7a4 13 = .ok (.iload_n 3, 1) := by decide +kernel
theorem dr_cJ5_newCapacity_0f7a4_14 : decode cJ5_newCapacity_0f7a4 14 = .ok (.iload_n 2, 1) := by decide +kernel
theorem dr_cJ5_newCapacity_0f7a4_15 : decode cJ5_newCapacity_0f7a4 15 = .ok (.isub, 1) := by decide +kernel
theorem dr_cJ5_newCapacity_0f7a4_16 : decode cJ5_newCapacity_0f7a4 16 = .ok (.istore 4, 2) := by decide +kernel
theorem dr_cJ5_newCapacity_0f7a4_18 : decode cJ5_newCapacity_0f7a4 18 = .ok (.iload_n 2, 1) := by decide +kernel
theorem dr_cJ5_newCapacity_0f7a4_19 : decode cJ5_newCapacity_0f7a4 19 = .ok (.iload 4, 2) := by decide +kernel
theorem dr_cJ5_newCapacity_0f7a4_21 : decode cJ5_newCapacity_0f7a4 21 = .ok (.iload_n 2, 1) := by decide +kernel
theorem dr_cJ5_newCapacity_0f7a4_22 : decode cJ5_newCapacity_0f7a4 22 = .ok (.iconst 2, 1) := by decide +kernel
theorem dr_cJ5_newCapacity_0f7a4_23 : decode cJ5_newCapacity_0f7a4 23 = .ok (.aload_n 0, 1) := by decide +kernel
theorem dr_cJ5_newCapacity_0f7a4_24 : decode cJ5_newCapacity_0f7a4 24 = .ok (.getfield 22, 3) := by decide +kernel
theorem dr_cJ5_newCapacity_0f7a4_27 : decode cJ5_newCapacity_0f7a4 27 = .ok (.ishl, 1) := by decide +kernel
theorem dr_cJ5_newCapacity_0f7a4_28 : decode cJ5_newCapacity_0f7a4 28 = .ok (.iadd, 1) := by decide +kernel
theorem dr_cJ5_newCapacity_0f7a4_29 : decode cJ5_newCapacity_0f7a4 29 = .ok (.invokestatic 114, 3) := by decide +kernel
theorem wr_8_8 : (Jvm.Cond.methodLink "java/lang/AbstractStringBuilder" (114 : Nat) ({ cls := "jdk/internal/util/ArraysSupport", name := "newLength", desc := "(III)I" } : Jvm.MethodName)) ∈ gw := gw_8 8 rfl rfl
theorem dr_cJ5_newCapacity_0f7a4_32 : decode cJ5_newCapacity_0f7a4 32 = .ok (.istore 5, 2) := by decide +kernel
theorem dr_cJ5_newCapacity_0f7a4_34 : decode cJ5_newCapacity_0f7a4 34 = .ok (.iload 5, 2) := by decide +kernel
theorem dr_cJ5_newCapacity_0f7a4_36 : decode cJ5_newCapacity_0f7a4 36 = .ok (.ldc 39, 2) := by decide +kernel
theorem wr_8_16 : (Jvm.Cond.constant "java/lang/AbstractStringBuilder" (39 : Nat) (2147483647 : Int32)) ∈ gw := gw_8 16 rfl rfl
theorem dr_cJ5_newCapacity_0f7a4_38 : decode cJ5_newCapacity_0f7a4 38 = .ok (.if_icmp .ne 13, 3) := by decide +kernel
theorem dr_cJ5_newCapacity_0f7a4_51 : decode cJ5_newCapacity_0f7a4 51 = .ok (.iload 5, 2) := by decide +kernel
theorem dr_cJ5_newCapacity_0f7a4_53 : decode cJ5_newCapacity_0f7a4 53 = .ok (.aload_n 0, 1) := by decide +kernel
theorem dr_cJ5_newCapacity_0f7a4_54 : decode cJ5_newCapacity_0f7a4 54 = .ok (.getfield 22, 3) := by decide +kernel
theorem dr_cJ5_newCapacity_0f7a4_57 : decode cJ5_newCapacity_0f7a4 57 = .ok (.ishr, 1) := by decide +kernel
theorem dr_cJ5_newCapacity_0f7a4_58 : decode cJ5_newCapacity_0f7a4 58 = .ok (.ireturn, 1) := by decide +kernel
theorem dr_cJ7_copyOf_9075b_0 : decode cJ7_copyOf_9075b 0 = .ok (.iload_n 1, 1) := by decide +kernel
theorem dr_cJ7_copyOf_9075b_1 : decode cJ7_copyOf_9075b 1 = .ok (.aload_n 0, 1) := by decide +kernel
theorem dr_cJ7_copyOf_9075b_2 : decode cJ7_copyOf_9075b 2 = .ok (.arraylength, 1) := by decide +kernel
theorem dr_cJ7_copyOf_9075b_3 : decode cJ7_copyOf_9075b 3 = .ok (.if_icmp .ne 11, 3) := by decide +kernel
theorem dr_cJ7_copyOf_9075b_14 : decode cJ7_copyOf_9075b 14 = .ok (.iload_n 1, 1) := by decide +kernel
theorem dr_cJ7_copyOf_9075b_15 : decode cJ7_copyOf_9075b 15 = .ok (.newarray .byte, 2) := by decide +kernel
theorem wr_1_66 : (Jvm.Cond.arrayClass Jvm.ClassFile.FieldType.byte) ∈ gw := gw_1 66 rfl rfl
theorem dr_cJ7_copyOf_9075b_17 : decode cJ7_copyOf_9075b 17 = .ok (.astore_n 2, 1) := by decide +kernel
theorem dr_cJ7_copyOf_9075b_18 : decode cJ7_copyOf_9075b 18 = .ok (.aload_n 0, 1) := by decide +kernel
theorem dr_cJ7_copyOf_9075b_19 : decode cJ7_copyOf_9075b 19 = .ok (.iconst 0, 1) := by decide +kernel
theorem dr_cJ7_copyOf_9075b_20 : decode cJ7_copyOf_9075b 20 = .ok (.aload_n 2, 1) := by decide +kernel
theorem dr_cJ7_copyOf_9075b_21 : decode cJ7_copyOf_9075b 21 = .ok (.iconst 0, 1) := by decide +kernel
theorem dr_cJ7_copyOf_9075b_22 : decode cJ7_copyOf_9075b 22 = .ok (.aload_n 0, 1) := by decide +kernel
theorem dr_cJ7_copyOf_9075b_23 : decode cJ7_copyOf_9075b 23 = .ok (.arraylength, 1) := by decide +kernel
theorem dr_cJ7_copyOf_9075b_24 : decode cJ7_copyOf_9075b 24 = .ok (.iload_n 1, 1) := by decide +kernel
theorem dr_cJ7_copyOf_9075b_25 : decode cJ7_copyOf_9075b 25 = .ok (.invokestatic 304, 3) := by decide +kernel
theorem dr_cJ7_copyOf_9075b_28 : decode cJ7_copyOf_9075b 28 = .ok (.invokestatic 150, 3) := by decide +kernel
theorem dr_cJ7_copyOf_9075b_31 : decode cJ7_copyOf_9075b 31 = .ok (.aload_n 2, 1) := by decide +kernel
theorem dr_cJ7_copyOf_9075b_32 : decode cJ7_copyOf_9075b 32 = .ok (.areturn, 1) := by decide +kernel
theorem dr_cJ5_ensureCapacityInternal_d00df_17 : decode cJ5_ensureCapacityInternal_d00df 17 = .ok (.aload_n 0, 1) := by decide +kernel
theorem dr_cJ5_ensureCapacityInternal_d00df_18 : decode cJ5_ensureCapacityInternal_d00df 18 = .ok (.aload_n 0, 1) := by decide +kernel
theorem dr_cJ5_ensureCapacityInternal_d00df_19 : decode cJ5_ensureCapacityInternal_d00df 19 = .ok (.getfield 15, 3) := by decide +kernel
theorem dr_cJ5_ensureCapacityInternal_d00df_22 : decode cJ5_ensureCapacityInternal_d00df 22 = .ok (.aload_n 0, 1) := by decide +kernel
theorem dr_cJ5_ensureCapacityInternal_d00df_23 : decode cJ5_ensureCapacityInternal_d00df 23 = .ok (.iload_n 1, 1) := by decide +kernel
theorem dr_cJ5_ensureCapacityInternal_d00df_24 : decode cJ5_ensureCapacityInternal_d00df 24 = .ok (.invokevirtual 104, 3) := by decide +kernel
theorem wr_8_4 : (Jvm.Cond.methodLink "java/lang/AbstractStringBuilder" (104 : Nat) ({ cls := "java/lang/AbstractStringBuilder", name := "newCapacity", desc := "(I)I" } : Jvm.MethodName)) ∈ gw := gw_8 4 rfl rfl
theorem wr_8_7 : (Jvm.Cond.code ({ cls := "java/lang/AbstractStringBuilder", name := "newCapacity", desc := "(I)I" } : Jvm.MethodName) prog_21_method_10_code (6 : Nat) (Option.some Jvm.ClassFile.FieldType.int)) ∈ gw := gw_8 7 rfl rfl
theorem wr_8_6 : (Jvm.Cond.instanceMethod ({ cls := "java/lang/AbstractStringBuilder", name := "newCapacity", desc := "(I)I" } : Jvm.MethodName)) ∈ gw := gw_8 6 rfl rfl
theorem wr_s_1 : Cond.selects "java/lang/StringBuilder" ⟨"java/lang/AbstractStringBuilder", "newCapacity", "(I)I"⟩ ⟨"java/lang/AbstractStringBuilder", "newCapacity", "(I)I"⟩ ∈ gw := gw_s _ 1 rfl rfl rfl
theorem dr_cJ5_ensureCapacityInternal_d00df_27 : decode cJ5_ensureCapacityInternal_d00df 27 = .ok (.aload_n 0, 1) := by decide +kernel
theorem dr_cJ5_ensureCapacityInternal_d00df_28 : decode cJ5_ensureCapacityInternal_d00df 28 = .ok (.getfield 22, 3) := by decide +kernel
theorem dr_cJ5_ensureCapacityInternal_d00df_31 : decode cJ5_ensureCapacityInternal_d00df 31 = .ok (.ishl, 1) := by decide +kernel
theorem dr_cJ5_ensureCapacityInternal_d00df_32 : decode cJ5_ensureCapacityInternal_d00df 32 = .ok (.invokestatic 108, 3) := by decide +kernel
theorem wr_8_17 : (Jvm.Cond.methodLink "java/lang/AbstractStringBuilder" (108 : Nat) ({ cls := "java/util/Arrays", name := "copyOf", desc := "([BI)[B" } : Jvm.MethodName)) ∈ gw := gw_8 17 rfl rfl
theorem wr_8_19 : (Jvm.Cond.code ({ cls := "java/util/Arrays", name := "copyOf", desc := "([BI)[B" } : Jvm.MethodName) prog_44_method_121_code (3 : Nat) (Option.some (Jvm.ClassFile.FieldType.array Jvm.ClassFile.FieldType.byte))) ∈ gw := gw_8 19 rfl rfl
theorem wr_8_18 : (Jvm.Cond.static ({ cls := "java/util/Arrays", name := "copyOf", desc := "([BI)[B" } : Jvm.MethodName)) ∈ gw := gw_8 18 rfl rfl
theorem dr_cJ5_ensureCapacityInternal_d00df_35 : decode cJ5_ensureCapacityInternal_d00df 35 = .ok (.putfield 15, 3) := by decide +kernel
abbrev ky_639902_AbstractStringBuilder_length : gKey := (cJ5_length_8abf5, 1, "java/lang/AbstractStringBuilder", (some FieldType.int), [], "length", fun _ _ => True)
def pp_639902_AbstractStringBuilder_length (D : va_G) (I : FieldType → ClassId) (P639893 : List Nat) (F639894 : Nat → va_E) (q639895 : Nat) (q639896 : Nat) (p639897 : Int32) (p639898 : Int32) (f639899 : Nat → Int32) (n639900 : Nat) : Option Value → va_W → Nat → Nat → Prop := fun r w dc ds => r = some (.int p639898) ∧ w = va_pl P639893 F639894 ∧ dc ≤ 0 ∧ ds ≤ 0
set_option maxRecDepth 100000 in
set_option maxHeartbeats 4000000 in
theorem cp_639902_AbstractStringBuilder_length (l : Launch) (hl0 : l.stackTraces = false) (D : va_G) (I : FieldType → ClassId) (P639893 : List Nat) (F639894 : Nat → va_E) (q639895 : Nat) (q639896 : Nat) (p639897 : Int32) (p639898 : Int32) (f639899 : Nat → Int32) (n639900 : Nat) (hmq639895 : q639895 ∈ P639893) (hmq639896 : q639896 ∈ P639893) (heq639895 : F639894 q639895 = .inr (1, [.ref q639896, .int 0, .int p639897, .int p639898])) (heq639896 : F639894 q639896 = .inl (I .byte, n639900, .inl f639899)) (bp639897 : gB p639897 0 1) (bp639898 : gB p639898 0 16777216) (bf639899 : gF f639899 (-128) 127) (x639901 : ((n639900 : Int) ≤ 16777216)) : CtA (gV D I) l yJ5_length_8abf5 cJ5_length_8abf5 1 (some FieldType.int) 0 0 0 0 [.ref q639895] (va_pl P639893 F639894) (pp_639902_AbstractStringBuilder_length D I P639893 F639894 q639895 q639896 p639897 p639898 f639899 n639900) gNA := by
  refine CtA_ofF hl0 (by decide +kernel) (Nat.le_of_ble_eq_true rfl) ?_
  refine G_aload_n 0 dr_cJ5_length_8abf5_0 rfl ?_
  refine Gp_get 3 hmq639895 heq639895 dr_cJ5_length_8abf5_1 (gk_J4 D I) (Nat.le_of_ble_eq_true rfl) wr_7_64 rfl ?_
  exact G_iretA dr_cJ5_length_8abf5_4 rfl (Nat.le_of_ble_eq_true rfl) (Nat.le_of_ble_eq_true rfl) ⟨rfl, rfl, (Nat.le_of_ble_eq_true rfl), (Nat.le_of_ble_eq_true rfl)⟩
abbrev ky_639892_StringBuilder_length : gKey := (cJ4_length_8abf5, 1, "java/lang/StringBuilder", (some FieldType.int), [], "length", fun _ _ => True)
def pp_639892_StringBuilder_length (D : va_G) (I : FieldType → ClassId) (P639883 : List Nat) (F639884 : Nat → va_E) (q639885 : Nat) (q639886 : Nat) (p639887 : Int32) (p639888 : Int32) (f639889 : Nat → Int32) (n639890 : Nat) : Option Value → va_W → Nat → Nat → Prop := fun r w dc ds => r = some (.int p639888) ∧ w = va_pl P639883 F639884 ∧ dc ≤ 0 ∧ ds ≤ 0
set_option maxRecDepth 100000 in
set_option maxHeartbeats 4000000 in
theorem cp_639892_StringBuilder_length (l : Launch) (hl0 : l.stackTraces = false) (D : va_G) (I : FieldType → ClassId) (P639883 : List Nat) (F639884 : Nat → va_E) (q639885 : Nat) (q639886 : Nat) (p639887 : Int32) (p639888 : Int32) (f639889 : Nat → Int32) (n639890 : Nat) (hmq639885 : q639885 ∈ P639883) (hmq639886 : q639886 ∈ P639883) (heq639885 : F639884 q639885 = .inr (1, [.ref q639886, .int 0, .int p639887, .int p639888])) (heq639886 : F639884 q639886 = .inl (I .byte, n639890, .inl f639889)) (bp639887 : gB p639887 0 1) (bp639888 : gB p639888 0 16777216) (bf639889 : gF f639889 (-128) 127) (x639891 : ((n639890 : Int) ≤ 16777216)) : CtA (gV D I) l yJ4_length_8abf5 cJ4_length_8abf5 1 (some FieldType.int) 1 20 0 0 [.ref q639885] (va_pl P639883 F639884) (pp_639892_StringBuilder_length D I P639883 F639884 q639885 q639886 p639887 p639888 f639889 n639890) gNA := by
  refine CtA_ofF hl0 (by decide +kernel) (Nat.le_of_ble_eq_true rfl) ?_
  refine G_aload_n 0 dr_cJ4_length_8abf5_0 rfl ?_
  refine Gw_callSU (As := []) (gV_ok D I) (cp_639902_AbstractStringBuilder_length l hl0 D I P639883 F639884 q639885 q639886 p639887 p639888 f639889 n639890 hmq639885 hmq639886 heq639885 heq639886 bp639887 bp639888 bf639889 (by have qa0 : Int32.toInt 0 = 0 := (by decide); omega)) dr_cJ4_length_8abf5_1 ⟨wr_8_86, wr_1_19, wr_8_87, by decide, rfl, (Nat.le_of_ble_eq_true rfl), (Nat.le_of_ble_eq_true rfl)⟩ wr_8_81 wr_8_82 wr_7_73 wr_7_44 (by decide) hmq639885 heq639885 rfl (show 0 + 0 ≤ 0 by first | omega | decide) (show 0 + 0 ≤ 0 by first | omega | decide) (Nat.le_of_ble_eq_true rfl) (fun r639906 w639907 dc639903 ds639904 hp639905 => ?_)
  obtain ⟨rfl, rfl, hdc, hds⟩ := hp639905
  change G _ _ _ _ _ _ _ (.int p639888 :: _) _ _ _
  refine G_widen (cs' := 0) (sl' := 0) (by omega) (by omega) ?_
  exact G_iretA dr_cJ4_length_8abf5_4 rfl (Nat.le_of_ble_eq_true rfl) (Nat.le_of_ble_eq_true rfl) ⟨rfl, rfl, (Nat.le_of_ble_eq_true rfl), (Nat.le_of_ble_eq_true rfl)⟩
abbrev ky_639955_Preconditions_checkIndex : gKey := (cJ3_checkIndex_8e157, 3, "jdk/internal/util/Preconditions", (some FieldType.int), [], "checkIndex", fun _ _ => True)
def pp_639955_Preconditions_checkIndex (D : va_G) (I : FieldType → ClassId) (P639949 : List Nat) (F639950 : Nat → va_E) (p639951 : Int32) (p639952 : Int32) (qo639953 : Nat) : Option Value → va_W → Nat → Nat → Prop := fun r w dc ds => r = some (.int p639951) ∧ w = va_pl P639949 F639950 ∧ dc ≤ 0 ∧ ds ≤ 0
set_option maxRecDepth 100000 in
set_option maxHeartbeats 4000000 in
theorem cp_639955_Preconditions_checkIndex (l : Launch) (hl0 : l.stackTraces = false) (D : va_G) (I : FieldType → ClassId) (P639949 : List Nat) (F639950 : Nat → va_E) (p639951 : Int32) (p639952 : Int32) (qo639953 : Nat) (bp639951 : gB p639951 0 16777216) (bp639952 : gB p639952 0 16777216) (x639954 : p639951.toInt < p639952.toInt) : CtA (gV D I) l yJ3_checkIndex_8e157 cJ3_checkIndex_8e157 3 (some FieldType.int) 0 0 0 0 [.int p639951, .int p639952, .ref qo639953] (va_pl P639949 F639950) (pp_639955_Preconditions_checkIndex D I P639949 F639950 p639951 p639952 qo639953) gNA := by
  refine CtA_ofF hl0 (by decide +kernel) (Nat.le_of_ble_eq_true rfl) ?_
  refine G_iload_n 0 dr_cJ3_checkIndex_8e157_0 rfl ?_
  refine G_if_lt 9 dr_cJ3_checkIndex_8e157_1 (by decide +kernel) (fun hc => absurd (show False by have := gj_lt hc (show Int32.toInt 0 = 0 by decide); omega) not_false) (fun _ => ?_)
  refine G_iload_n 0 dr_cJ3_checkIndex_8e157_4 rfl ?_
  refine G_iload_n 1 dr_cJ3_checkIndex_8e157_5 rfl ?_
  refine G_icmp_lt 16 dr_cJ3_checkIndex_8e157_6 (by decide +kernel) (fun hc639956 => ?_) (fun hc639956 => ?_)
  · have r639957 : p639951.toInt < p639952.toInt := gC_lt hc639956
    have bp639951' : gB p639951 0 16777215 := ⟨by omega, by omega⟩
    have bp639952' : gB p639952 1 16777216 := ⟨by omega, by omega⟩
    refine G_iload_n 0 dr_cJ3_checkIndex_8e157_16 rfl ?_
    exact G_iretA dr_cJ3_checkIndex_8e157_17 rfl (Nat.le_of_ble_eq_true rfl) (Nat.le_of_ble_eq_true rfl) ⟨rfl, rfl, (Nat.le_of_ble_eq_true rfl), (Nat.le_of_ble_eq_true rfl)⟩
  · have r639958 : p639952.toInt ≤ p639951.toInt := gC_nlt hc639956
    exact absurd (show False by omega) not_false
abbrev ky_639942_String_checkIndex : gKey := (cJ0_checkIndex_df160, 2, "java/lang/String", none, [], "checkIndex", fun _ _ => True)
def pp_639942_String_checkIndex (D : va_G) (I : FieldType → ClassId) (P639937 : List Nat) (F639938 : Nat → va_E) (p639939 : Int32) (p639940 : Int32) : Option Value → va_W → Nat → Nat → Prop := fun r w dc ds => r = none ∧ w = va_pl P639937 F639938 ∧ dc ≤ 0 ∧ ds ≤ 0
set_option maxRecDepth 100000 in
set_option maxHeartbeats 4000000 in
theorem cp_639942_String_checkIndex (l : Launch) (hl0 : l.stackTraces = false) (D : va_G) (I : FieldType → ClassId) (P639937 : List Nat) (F639938 : Nat → va_E) (p639939 : Int32) (p639940 : Int32) (bp639939 : gB p639939 0 16777216) (bp639940 : gB p639940 0 16777216) (x639941 : p639939.toInt < p639940.toInt) : CtA (gV D I) l yJ0_checkIndex_df160 cJ0_checkIndex_df160 2 none 1 22 0 0 [.int p639939, .int p639940] (va_pl P639937 F639938) (pp_639942_String_checkIndex D I P639937 F639938 p639939 p639940) gNA := by
  refine CtA_ofF hl0 (by decide +kernel) (Nat.le_of_ble_eq_true rfl) ?_
  refine G_iload_n 0 dr_cJ0_checkIndex_df160_0 rfl ?_
  refine G_iload_n 1 dr_cJ0_checkIndex_df160_1 rfl ?_
  refine G_gets dr_cJ0_checkIndex_df160_2 wr_3_81 gz_pf (fun x hx => ?_)
  rcases hx with rfl | ⟨t639943, rfl⟩
  · refine Gw_callS (As := [.int p639939, .int p639940, .null]) (gV_ok D I) (cp_34_Preconditions_checkIndex l hl0 D I P639937 F639938 p639939 p639940 bp639939 bp639940 (by omega)) dr_cJ0_checkIndex_df160_5 ⟨wr_3_83, wr_1_29, wr_3_85, by decide, rfl, (Nat.le_of_ble_eq_true rfl), (Nat.le_of_ble_eq_true rfl)⟩ wr_3_84 (show 0 + 0 ≤ 0 by first | omega | decide) (show 0 + 0 ≤ 0 by first | omega | decide) (Nat.le_of_ble_eq_true rfl) (fun r639947 w639948 dc639944 ds639945 hp639946 => ?_) (fun _ _ _ _ _ z => z.elim)
    obtain ⟨rfl, rfl, hdc, hds⟩ := hp639946
    change G _ _ _ _ _ _ _ (.int p639939 :: _) _ _ _
    refine G_widen (cs' := 0) (sl' := 0) (by omega) (by omega) ?_
    refine G_pop dr_cJ0_checkIndex_df160_8 rfl ?_
    exact G_vretA dr_cJ0_checkIndex_df160_9 rfl (Nat.le_of_ble_eq_true rfl) (Nat.le_of_ble_eq_true rfl) ⟨rfl, rfl, (Nat.le_of_ble_eq_true rfl), (Nat.le_of_ble_eq_true rfl)⟩
  · refine Gw_callS (As := [.int p639939, .int p639940, .ref t639943]) (gV_ok D I) (cp_639955_Preconditions_checkIndex l hl0 D I P639937 F639938 p639939 p639940 t639943 bp639939 bp639940 (by omega)) dr_cJ0_checkIndex_df160_5 ⟨wr_3_83, wr_1_29, wr_3_85, by decide, rfl, (Nat.le_of_ble_eq_true rfl), (Nat.le_of_ble_eq_true rfl)⟩ wr_3_84 (show 0 + 0 ≤ 0 by first | omega | decide) (show 0 + 0 ≤ 0 by first | omega | decide) (Nat.le_of_ble_eq_true rfl) (fun r639962 w639963 dc639959 ds639960 hp639961 => ?_) (fun _ _ _ _ _ z => z.elim)
    obtain ⟨rfl, rfl, hdc, hds⟩ := hp639961
    change G _ _ _ _ _ _ _ (.int p639939 :: _) _ _ _
    refine G_widen (cs' := 0) (sl' := 0) (by omega) (by omega) ?_
    refine G_pop dr_cJ0_checkIndex_df160_8 rfl ?_
    exact G_vretA dr_cJ0_checkIndex_df160_9 rfl (Nat.le_of_ble_eq_true rfl) (Nat.le_of_ble_eq_true rfl) ⟨rfl, rfl, (Nat.le_of_ble_eq_true rfl), (Nat.le_of_ble_eq_true rfl)⟩
abbrev ky_639933_AbstractStringBuilder_charAt : gKey := (cJ5_charAt_5068e, 5, "java/lang/AbstractStringBuilder", (some FieldType.char), [], "charAt", fun _ _ => True)
def pp_639933_AbstractStringBuilder_charAt (D : va_G) (I : FieldType → ClassId) (P639921 : List Nat) (F639922 : Nat → va_E) (q639923 : Nat) (q639924 : Nat) (p639925 : Int32) (p639926 : Int32) (p639927 : Int32) (f639928 : Nat → Int32) (n639929 : Nat) : Option Value → va_W → Nat → Nat → Prop := fun r w dc ds => ∃ (o639972 : Int32), r = some (.int o639972) ∧ w = va_pl P639921 F639922 ∧ dc ≤ 0 ∧ ds ≤ 0 ∧ gB o639972 0 65535
set_option maxRecDepth 100000 in
set_option maxHeartbeats 4000000 in
theorem cp_639933_AbstractStringBuilder_charAt (l : Launch) (hl0 : l.stackTraces = false) (D : va_G) (I : FieldType → ClassId) (P639921 : List Nat) (F639922 : Nat → va_E) (q639923 : Nat) (q639924 : Nat) (p639925 : Int32) (p639926 : Int32) (p639927 : Int32) (f639928 : Nat → Int32) (n639929 : Nat) (hmq639923 : q639923 ∈ P639921) (hmq639924 : q639924 ∈ P639921) (heq639923 : F639922 q639923 = .inr (1, [.ref q639924, .int 0, .int p639926, .int p639927])) (heq639924 : F639922 q639924 = .inl (I .byte, n639929, .inl f639928)) (bp639925 : gB p639925 0 16777215) (bp639926 : gB p639926 0 1) (bp639927 : gB p639927 0 16777216) (bf639928 : gF f639928 (-128) 127) (x639930 : p639925.toInt < p639927.toInt) (x639931 : p639927.toInt ≤ (n639929 : Int)) (x639932 : ((n639929 : Int) ≤ 16777216)) : CtA (gV D I) l yJ5_charAt_5068e cJ5_charAt_5068e 5 (some FieldType.char) 2 43 0 0 [.ref q639923, .int p639925] (va_pl P639921 F639922) (pp_639933_AbstractStringBuilder_charAt D I P639921 F639922 q639923 q639924 p639925 p639926 p639927 f639928 n639929) gNA := by
  refine CtA_ofF hl0 (by decide +kernel) (Nat.le_of_ble_eq_true rfl) ?_
  refine G_aload_n 0 dr_cJ5_charAt_5068e_0 rfl ?_
  refine Gp_get 1 hmq639923 heq639923 dr_cJ5_charAt_5068e_1 (gk_J4 D I) (Nat.le_of_ble_eq_true rfl) wr_7_61 rfl ?_
  refine G_istore_n (L' := [(2, .int 0), (0, .ref q639923), (1, .int p639925)]) dr_cJ5_charAt_5068e_4 (Nat.le_of_ble_eq_true rfl) rfl ?_
  refine G_aload_n 1 dr_cJ5_charAt_5068e_5 rfl ?_
  refine Gp_get 0 hmq639923 heq639923 dr_cJ5_charAt_5068e_6 (gk_J4 D I) (Nat.le_of_ble_eq_true rfl) wr_7_60 rfl ?_
  refine G_astore_n (L' := [(3, .ref q639924), (2, .int 0), (0, .ref q639923), (1, .int p639925)]) dr_cJ5_charAt_5068e_9 (Nat.le_of_ble_eq_true rfl) rfl ?_
  refine G_aload_n 2 dr_cJ5_charAt_5068e_10 rfl ?_
  refine Gp_get 3 hmq639923 heq639923 dr_cJ5_charAt_5068e_11 (gk_J4 D I) (Nat.le_of_ble_eq_true rfl) wr_7_64 rfl ?_
  refine G_aload_n 0 dr_cJ5_charAt_5068e_14 rfl ?_
  refine Gp_alen (Int32.ofNat n639929) 1 hmq639924 heq639924 dr_cJ5_charAt_5068e_15 rfl rfl (G_nam fun z639934 hz639934 => ?_)
  have ez639934 : z639934.toInt = (n639929 : Nat) := gI_ofM hz639934 (by omega)
  have bz639934 : gB z639934 0 16777216 := ⟨by omega, by omega⟩
  refine G_iload_n 1 dr_cJ5_charAt_5068e_16 rfl ?_
  refine G_ishr dr_cJ5_charAt_5068e_17 (G_nam fun z639935 hz639935 => ?_)
  have ez639935 : z639935.toInt = z639934.toInt / 1 := gI_shr (k := 0) hz639935 (by decide)
  have bz639935 : gB z639935 0 16777216 := ⟨by omega, by omega⟩
  refine G_mmin dr_cJ5_charAt_5068e_18 wr_11_212 wr_3_227 wr_1_6 wr_3_228 (Nat.le_of_ble_eq_true rfl) (Nat.le_of_ble_eq_true rfl) (show 0 ≤ 0 by first | omega | decide) (show 0 ≤ 0 by first | omega | decide) (G_nam fun z639936 hz639936 => ?_)
  have ez639936 : p639927.toInt ≥ z639936.toInt ∧ z639935.toInt ≥ z639936.toInt ∧ (z639936.toInt = p639927.toInt ∨ z639936.toInt = z639935.toInt) := by have := gI_min hz639936; omega
  have bz639936 : gB z639936 0 16777216 := ⟨by omega, by omega⟩
  refine G_istore (L' := [(4, .int z639936), (3, .ref q639924), (2, .int 0), (0, .ref q639923), (1, .int p639925)]) dr_cJ5_charAt_5068e_21 (Nat.le_of_ble_eq_true rfl) rfl ?_
  refine G_iload_n 4 dr_cJ5_charAt_5068e_23 rfl ?_
  refine G_iload 0 dr_cJ5_charAt_5068e_24 rfl ?_
  refine Gw_callS (As := [.int p639925, .int z639936]) (gV_ok D I) (cp_639942_String_checkIndex l hl0 D I P639921 F639922 p639925 z639936 (gB_w bp639925 (by decide) (by decide)) bz639936 (by have qa0 : Int32.toInt 0 = 0 := (by decide); omega)) dr_cJ5_charAt_5068e_26 ⟨wr_11_213, wr_1_21, wr_3_80, by decide, rfl, (Nat.le_of_ble_eq_true rfl), (Nat.le_of_ble_eq_true rfl)⟩ wr_3_79 (show 0 + 0 ≤ 0 by first | omega | decide) (show 0 + 0 ≤ 0 by first | omega | decide) (Nat.le_of_ble_eq_true rfl) (fun r639967 w639968 dc639964 ds639965 hp639966 => ?_) (fun _ _ _ _ _ z => z.elim)
  obtain ⟨rfl, rfl, hdc, hds⟩ := hp639966
  change G _ _ _ _ _ _ _ _ _ _ _
  refine G_widen (cs' := 0) (sl' := 0) (by omega) (by omega) ?_
  refine G_iload_n 2 dr_cJ5_charAt_5068e_29 rfl ?_
  refine G_if_ne 42 dr_cJ5_charAt_5068e_30 (by decide +kernel) (fun hc => absurd hc (by decide)) (fun _ => ?_)
  refine G_aload_n 1 dr_cJ5_charAt_5068e_33 rfl ?_
  refine G_iload_n 4 dr_cJ5_charAt_5068e_34 rfl ?_
  refine Gp_bald 1 hmq639924 heq639924 dr_cJ5_charAt_5068e_35 rfl (gB_inr (by omega) (by omega)) (G_nam fun z639969 hz639969 => ?_)
  have bz639969 : gB z639969 (-128) 127 := by rw [hz639969]; exact bf639928 _
  refine G_sipush 255 dr_cJ5_charAt_5068e_36 (by decide +kernel) ?_
  refine G_iand dr_cJ5_charAt_5068e_39 (G_nam fun z639970 hz639970 => ?_)
  have bz639970 : gB z639970 0 255 := gB_and hz639970 (gBl (show Int32.toInt 255 = 255 by decide)) (by decide)
  refine G_i2c dr_cJ5_charAt_5068e_40 (G_nam fun z639971 hz639971 => ?_)
  have bz639971 : gB z639971 0 65535 := gB_i2c hz639971
  exact G_zretA FieldType.char dr_cJ5_charAt_5068e_41 rfl (gN_char bz639971) (Nat.le_of_ble_eq_true rfl) (Nat.le_of_ble_eq_true rfl) ⟨z639971, rfl, rfl, (Nat.le_of_ble_eq_true rfl), (Nat.le_of_ble_eq_true rfl), bz639971⟩
abbrev ky_639920_StringBuilder_charAt : gKey := (cJ4_charAt_5068e, 2, "java/lang/StringBuilder", (some FieldType.char), [], "charAt", fun _ _ => True)
def pp_639920_StringBuilder_charAt (D : va_G) (I : FieldType → ClassId) (P639908 : List Nat) (F639909 : Nat → va_E) (q639910 : Nat) (q639911 : Nat) (p639912 : Int32) (p639913 : Int32) (p639914 : Int32) (f639915 : Nat → Int32) (n639916 : Nat) : Option Value → va_W → Nat → Nat → Prop := fun r w dc ds => ∃ (o639979 : Int32), r = some (.int o639979) ∧ w = va_pl P639908 F639909 ∧ dc ≤ 0 ∧ ds ≤ 0 ∧ gB o639979 0 65535
set_option maxRecDepth 100000 in
set_option maxHeartbeats 4000000 in
theorem cp_639920_StringBuilder_charAt (l : Launch) (hl0 : l.stackTraces = false) (D : va_G) (I : FieldType → ClassId) (P639908 : List Nat) (F639909 : Nat → va_E) (q639910 : Nat) (q639911 : Nat) (p639912 : Int32) (p639913 : Int32) (p639914 : Int32) (f639915 : Nat → Int32) (n639916 : Nat) (hmq639910 : q639910 ∈ P639908) (hmq639911 : q639911 ∈ P639908) (heq639910 : F639909 q639910 = .inr (1, [.ref q639911, .int 0, .int p639913, .int p639914])) (heq639911 : F639909 q639911 = .inl (I .byte, n639916, .inl f639915)) (bp639912 : gB p639912 0 16777215) (bp639913 : gB p639913 0 1) (bp639914 : gB p639914 0 16777216) (bf639915 : gF f639915 (-128) 127) (x639917 : p639912.toInt < p639914.toInt) (x639918 : p639914.toInt ≤ (n639916 : Int)) (x639919 : ((n639916 : Int) ≤ 16777216)) : CtA (gV D I) l yJ4_charAt_5068e cJ4_charAt_5068e 2 (some FieldType.char) 3 67 0 0 [.ref q639910, .int p639912] (va_pl P639908 F639909) (pp_639920_StringBuilder_charAt D I P639908 F639909 q639910 q639911 p639912 p639913 p639914 f639915 n639916) gNA := by
  refine CtA_ofF hl0 (by decide +kernel) (Nat.le_of_ble_eq_true rfl) ?_
  refine G_aload_n 0 dr_cJ4_charAt_5068e_0 rfl ?_
  refine G_iload_n 1 dr_cJ4_charAt_5068e_1 rfl ?_
  refine Gw_callSU (As := [.int p639912]) (gV_ok D I) (cp_639933_AbstractStringBuilder_charAt l hl0 D I P639908 F639909 q639910 q639911 p639912 p639913 p639914 f639915 n639916 hmq639910 hmq639911 heq639910 heq639911 bp639912 bp639913 bp639914 bf639915 (by have qa0 : Int32.toInt 0 = 0 := (by decide); omega) (by have qa0 : Int32.toInt 0 = 0 := (by decide); omega) (by have qa0 : Int32.toInt 0 = 0 := (by decide); omega)) dr_cJ4_charAt_5068e_2 ⟨wr_11_209, wr_1_19, wr_11_211, by decide, rfl, (Nat.le_of_ble_eq_true rfl), (Nat.le_of_ble_eq_true rfl)⟩ wr_11_210 wr_11_231 wr_7_73 wr_7_44 (by decide) hmq639910 heq639910 rfl (show 0 + 0 ≤ 0 by first | omega | decide) (show 0 + 0 ≤ 0 by first | omega | decide) (Nat.le_of_ble_eq_true rfl) (fun r639976 w639977 dc639973 ds639974 hp639975 => ?_)
  obtain ⟨o639978, rfl, rfl, hdc, hds, bo639978⟩ := hp639975
  change G _ _ _ _ _ _ _ (.int o639978 :: _) _ _ _
  refine G_widen (cs' := 0) (sl' := 0) (by omega) (by omega) ?_
  exact G_zretA FieldType.char dr_cJ4_charAt_5068e_5 rfl (gN_char bo639978) (Nat.le_of_ble_eq_true rfl) (Nat.le_of_ble_eq_true rfl) ⟨o639978, rfl, rfl, (Nat.le_of_ble_eq_true rfl), (Nat.le_of_ble_eq_true rfl), bo639978⟩
abbrev ky_640016_AbstractStringBuilder_ensureCapacityInternal : gKey := (cJ5_ensureCapacityInternal_d00df, 3, "java/lang/AbstractStringBuilder", none, [], "ensureCapacityInternal", fun _ _ => True)
def pp_640016_AbstractStringBuilder_ensureCapacityInternal (D : va_G) (I : FieldType → ClassId) (P640005 : List Nat) (F640006 : Nat → va_E) (q640007 : Nat) (q640008 : Nat) (p640009 : Int32) (p640010 : Int32) (p640011 : Int32) (f640012 : Nat → Int32) (n640013 : Nat) : Option Value → va_W → Nat → Nat → Prop := fun r w dc ds => r = none ∧ w = va_pl P640005 F640006 ∧ dc ≤ 0 ∧ ds ≤ 0
set_option maxRecDepth 100000 in
set_option maxHeartbeats 4000000 in
theorem cp_640016_AbstractStringBuilder_ensureCapacityInternal (l : Launch) (hl0 : l.stackTraces = false) (D : va_G) (I : FieldType → ClassId) (P640005 : List Nat) (F640006 : Nat → va_E) (q640007 : Nat) (q640008 : Nat) (p640009 : Int32) (p640010 : Int32) (p640011 : Int32) (f640012 : Nat → Int32) (n640013 : Nat) (hmq640007 : q640007 ∈ P640005) (hmq640008 : q640008 ∈ P640005) (heq640007 : F640006 q640007 = .inr (1, [.ref q640008, .int 0, .int p640010, .int p640011])) (heq640008 : F640006 q640008 = .inl (I .byte, n640013, .inl f640012)) (bp640009 : gB p640009 0 16777216) (bp640010 : gB p640010 0 1) (bp640011 : gB p640011 0 16777216) (bf640012 : gF f640012 (-128) 127) (x640014 : p640009.toInt ≤ (n640013 : Int)) (x640015 : ((n640013 : Int) ≤ 16777216)) : CtA (gV D I) l yJ5_ensureCapacityInternal_d00df cJ5_ensureCapacityInternal_d00df 3 none 0 0 0 0 [.ref q640007, .int p640009] (va_pl P640005 F640006) (pp_640016_AbstractStringBuilder_ensureCapacityInternal D I P640005 F640006 q640007 q640008 p640009 p640010 p640011 f640012 n640013) gNA := by
  refine CtA_ofF hl0 (by decide +kernel) (Nat.le_of_ble_eq_true rfl) ?_
  refine G_aload_n 0 dr_cJ5_ensureCapacityInternal_d00df_0 rfl ?_
  refine Gp_get 0 hmq640007 heq640007 dr_cJ5_ensureCapacityInternal_d00df_1 (gk_J4 D I) (Nat.le_of_ble_eq_true rfl) wr_7_60 rfl ?_
  refine Gp_alen (Int32.ofNat n640013) 1 hmq640008 heq640008 dr_cJ5_ensureCapacityInternal_d00df_4 rfl rfl (G_nam fun z640017 hz640017 => ?_)
  have ez640017 : z640017.toInt = (n640013 : Nat) := gI_ofM hz640017 (by omega)
  have bz640017 : gB z640017 0 16777216 := ⟨by omega, by omega⟩
  refine G_aload_n 0 dr_cJ5_ensureCapacityInternal_d00df_5 rfl ?_
  refine Gp_get 1 hmq640007 heq640007 dr_cJ5_ensureCapacityInternal_d00df_6 (gk_J4 D I) (Nat.le_of_ble_eq_true rfl) wr_7_61 rfl ?_
  refine G_ishr dr_cJ5_ensureCapacityInternal_d00df_9 (G_nam fun z640018 hz640018 => ?_)
  have ez640018 : z640018.toInt = z640017.toInt / 1 := gI_shr (k := 0) hz640018 (by decide)
  have bz640018 : gB z640018 0 16777216 := ⟨by omega, by omega⟩
  refine G_istore_n (L' := [(2, .int z640018), (0, .ref q640007), (1, .int p640009)]) dr_cJ5_ensureCapacityInternal_d00df_10 (Nat.le_of_ble_eq_true rfl) rfl ?_
  refine G_iload_n 2 dr_cJ5_ensureCapacityInternal_d00df_11 rfl ?_
  refine G_iload_n 0 dr_cJ5_ensureCapacityInternal_d00df_12 rfl ?_
  refine G_isub dr_cJ5_ensureCapacityInternal_d00df_13 (G_nam fun z640019 hz640019 => ?_)
  have ez640019 : z640019.toInt = p640009.toInt - z640018.toInt := by rw [gI_sub hz640019 bp640009 bz640018 (by decide) (by decide)]
  have bz640019 : gB z640019 (-16777216) 16777216 := gB_sub (gI_sub hz640019 bp640009 bz640018 (by decide) (by decide)) bp640009 bz640018 (by decide) (by decide)
  refine G_if_le 38 dr_cJ5_ensureCapacityInternal_d00df_14 (by decide +kernel) (fun hc640020 => ?_) (fun hc => absurd (show False by have := gj_nle hc (show Int32.toInt 0 = 0 by decide); omega) not_false)
  have r640022 : z640019.toInt ≤ 0 := gj_le hc640020 (show Int32.toInt 0 = 0 by decide)
  have bz640019' : gB z640019 (-16777216) 0 := ⟨by omega, by omega⟩
  exact G_vretA dr_cJ5_ensureCapacityInternal_d00df_38 rfl (Nat.le_of_ble_eq_true rfl) (Nat.le_of_ble_eq_true rfl) ⟨rfl, rfl, (Nat.le_of_ble_eq_true rfl), (Nat.le_of_ble_eq_true rfl)⟩
abbrev ky_640037_AbstractStringBuilder_isLatin1 : gKey := (cJ5_isLatin1_aae02, 1, "java/lang/AbstractStringBuilder", (some FieldType.boolean), [], "isLatin1", fun _ _ => True)
def pp_640037_AbstractStringBuilder_isLatin1 (D : va_G) (I : FieldType → ClassId) (P640028 : List Nat) (F640029 : Nat → va_E) (q640030 : Nat) (q640031 : Nat) (p640032 : Int32) (p640033 : Int32) (f640034 : Nat → Int32) (n640035 : Nat) : Option Value → va_W → Nat → Nat → Prop := fun r w dc ds => r = some (.int 1) ∧ w = va_pl P640028 F640029 ∧ dc ≤ 0 ∧ ds ≤ 0
set_option maxRecDepth 100000 in
set_option maxHeartbeats 4000000 in
theorem cp_640037_AbstractStringBuilder_isLatin1 (l : Launch) (hl0 : l.stackTraces = false) (D : va_G) (I : FieldType → ClassId) (P640028 : List Nat) (F640029 : Nat → va_E) (q640030 : Nat) (q640031 : Nat) (p640032 : Int32) (p640033 : Int32) (f640034 : Nat → Int32) (n640035 : Nat) (hmq640030 : q640030 ∈ P640028) (hmq640031 : q640031 ∈ P640028) (heq640030 : F640029 q640030 = .inr (1, [.ref q640031, .int 0, .int p640032, .int p640033])) (heq640031 : F640029 q640031 = .inl (I .byte, n640035, .inl f640034)) (bp640032 : gB p640032 0 1) (bp640033 : gB p640033 0 16777216) (bf640034 : gF f640034 (-128) 127) (x640036 : ((n640035 : Int) ≤ 16777216)) : CtA (gV D I) l yJ5_isLatin1_aae02 cJ5_isLatin1_aae02 1 (some FieldType.boolean) 0 0 0 0 [.ref q640030] (va_pl P640028 F640029) (pp_640037_AbstractStringBuilder_isLatin1 D I P640028 F640029 q640030 q640031 p640032 p640033 f640034 n640035) gNA := by
  refine CtA_ofF hl0 (by decide +kernel) (Nat.le_of_ble_eq_true rfl) ?_
  refine G_gets dr_cJ5_isLatin1_aae02_0 wr_7_52 gz_cs (fun x hx => ?_)
  subst hx
  refine G_if_eq 17 dr_cJ5_isLatin1_aae02_3 (by decide +kernel) (fun hc => absurd hc (by decide)) (fun _ => ?_)
  refine G_aload_n 0 dr_cJ5_isLatin1_aae02_6 rfl ?_
  refine Gp_get 1 hmq640030 heq640030 dr_cJ5_isLatin1_aae02_7 (gk_J4 D I) (Nat.le_of_ble_eq_true rfl) wr_7_61 rfl ?_
  refine G_if_ne 17 dr_cJ5_isLatin1_aae02_10 (by decide +kernel) (fun hc => absurd hc (by decide)) (fun _ => ?_)
  refine G_iconst 1 dr_cJ5_isLatin1_aae02_13 (by decide +kernel) ?_
  refine G_goto 18 dr_cJ5_isLatin1_aae02_14 (by decide +kernel) ?_
  exact G_zretA FieldType.boolean dr_cJ5_isLatin1_aae02_18 rfl rfl (Nat.le_of_ble_eq_true rfl) (Nat.le_of_ble_eq_true rfl) ⟨rfl, rfl, (Nat.le_of_ble_eq_true rfl), (Nat.le_of_ble_eq_true rfl)⟩
abbrev ky_640046_StringLatin1_canEncode : gKey := (cJ1_canEncode_fc78d, 1, "java/lang/StringLatin1", (some FieldType.boolean), [], "canEncode", fun _ _ => True)
def pp_640046_StringLatin1_canEncode (D : va_G) (I : FieldType → ClassId) (P640043 : List Nat) (F640044 : Nat → va_E) (p640045 : Int32) : Option Value → va_W → Nat → Nat → Prop := fun r w dc ds => (r = some (.int 0) ∧ w = va_pl P640043 F640044 ∧ dc ≤ 0 ∧ ds ≤ 0 ∧ 255 < p640045.toInt) ∨ (r = some (.int 1) ∧ w = va_pl P640043 F640044 ∧ dc ≤ 0 ∧ ds ≤ 0 ∧ p640045.toInt ≤ 255)
set_option maxRecDepth 100000 in
set_option maxHeartbeats 4000000 in
theorem cp_640046_StringLatin1_canEncode (l : Launch) (hl0 : l.stackTraces = false) (D : va_G) (I : FieldType → ClassId) (P640043 : List Nat) (F640044 : Nat → va_E) (p640045 : Int32) (bp640045 : gB p640045 0 65535) : CtA (gV D I) l yJ1_canEncode_fc78d cJ1_canEncode_fc78d 1 (some FieldType.boolean) 0 0 0 0 [.int p640045] (va_pl P640043 F640044) (pp_640046_StringLatin1_canEncode D I P640043 F640044 p640045) gNA := by
  refine CtA_ofF hl0 (by decide +kernel) (Nat.le_of_ble_eq_true rfl) ?_
  refine G_iload_n 0 dr_cJ1_canEncode_fc78d_0 rfl ?_
  refine G_sipush 255 dr_cJ1_canEncode_fc78d_1 (by decide +kernel) ?_
  refine G_icmp_gt 11 dr_cJ1_canEncode_fc78d_4 (by decide +kernel) (fun hc640047 => ?_) (fun hc640047 => ?_)
  · have r640048 : 255 < p640045.toInt := gj_ltL hc640047 (show Int32.toInt 255 = 255 by decide)
    have bp640045' : gB p640045 256 65535 := ⟨by omega, by omega⟩
    refine G_iconst 0 dr_cJ1_canEncode_fc78d_11 (by decide +kernel) ?_
    exact G_zretA FieldType.boolean dr_cJ1_canEncode_fc78d_12 rfl rfl (Nat.le_of_ble_eq_true rfl) (Nat.le_of_ble_eq_true rfl) (Or.inl ⟨rfl, rfl, (Nat.le_of_ble_eq_true rfl), (Nat.le_of_ble_eq_true rfl), r640048⟩)
  · have r640049 : p640045.toInt ≤ 255 := gj_nltL hc640047 (show Int32.toInt 255 = 255 by decide)
    have bp640045' : gB p640045 0 255 := ⟨by omega, by omega⟩
    refine G_iconst 1 dr_cJ1_canEncode_fc78d_7 (by decide +kernel) ?_
    refine G_goto 12 dr_cJ1_canEncode_fc78d_8 (by decide +kernel) ?_
    exact G_zretA FieldType.boolean dr_cJ1_canEncode_fc78d_12 rfl rfl (Nat.le_of_ble_eq_true rfl) (Nat.le_of_ble_eq_true rfl) (Or.inr (⟨rfl, rfl, (Nat.le_of_ble_eq_true rfl), (Nat.le_of_ble_eq_true rfl), r640049⟩))
abbrev ky_640003_AbstractStringBuilder_append : gKey := (cJ5_append_3fe6f, 2, "java/lang/AbstractStringBuilder", (some (FieldType.object "java/lang/AbstractStringBuilder")), [], "append", fun _ _ => True)
def pp_640003_AbstractStringBuilder_append (D : va_G) (I : FieldType → ClassId) (P639992 : List Nat) (F639993 : Nat → va_E) (q639994 : Nat) (q639995 : Nat) (p639996 : Int32) (p639997 : Int32) (p639998 : Int32) (f639999 : Nat → Int32) (n640000 : Nat) : Option Value → va_W → Nat → Nat → Prop := fun r w dc ds => ∃ (F640076 : Nat → va_E) (o640073 : Int32) (f640074 : Nat → Int32), r = some (.ref q639994) ∧ w = va_pl P639992 F640076 ∧ rFr [q639995, q639994] P639992 F639993 F640076 ∧ F640076 q639994 = .inr (1, [.ref q639995, .int 0, .int p639997, .int o640073]) ∧ F640076 q639995 = .inl (I .byte, n640000, .inl f640074) ∧ dc ≤ 0 ∧ ds ≤ 0 ∧ gB o640073 1 16777216 ∧ gF f640074 (-128) 127 ∧ o640073.toInt = p639998.toInt + 1
set_option maxRecDepth 100000 in
set_option maxHeartbeats 4000000 in
theorem cp_640003_AbstractStringBuilder_append (l : Launch) (hl0 : l.stackTraces = false) (D : va_G) (I : FieldType → ClassId) (P639992 : List Nat) (F639993 : Nat → va_E) (q639994 : Nat) (q639995 : Nat) (p639996 : Int32) (p639997 : Int32) (p639998 : Int32) (f639999 : Nat → Int32) (n640000 : Nat) (hmq639994 : q639994 ∈ P639992) (hmq639995 : q639995 ∈ P639992) (heq639994 : F639993 q639994 = .inr (1, [.ref q639995, .int 0, .int p639997, .int p639998])) (heq639995 : F639993 q639995 = .inl (I .byte, n640000, .inl f639999)) (bp639996 : gB p639996 0 255) (bp639997 : gB p639997 0 1) (bp639998 : gB p639998 0 16777216) (bf639999 : gF f639999 (-128) 127) (x640001 : p639998.toInt < (n640000 : Int)) (x640002 : ((n640000 : Int) ≤ 16777216)) : CtA (gV D I) l yJ5_append_3fe6f cJ5_append_3fe6f 2 (some (FieldType.object "java/lang/AbstractStringBuilder")) 1 22 0 0 [.ref q639994, .int p639996] (va_pl P639992 F639993) (pp_640003_AbstractStringBuilder_append D I P639992 F639993 q639994 q639995 p639996 p639997 p639998 f639999 n640000) gNA := by
  refine CtA_ofF hl0 (by decide +kernel) (Nat.le_of_ble_eq_true rfl) ?_
  refine G_aload_n 0 dr_cJ5_append_3fe6f_0 rfl ?_
  refine G_aload_n 0 dr_cJ5_append_3fe6f_1 rfl ?_
  refine Gp_get 3 hmq639994 heq639994 dr_cJ5_append_3fe6f_2 (gk_J4 D I) (Nat.le_of_ble_eq_true rfl) wr_7_64 rfl ?_
  refine G_iconst 1 dr_cJ5_append_3fe6f_5 (by decide +kernel) ?_
  refine G_iadd dr_cJ5_append_3fe6f_6 (G_nam fun z640004 hz640004 => ?_)
  have ez640004 : z640004.toInt = p639998.toInt + 1 := by rw [gI_add hz640004 bp639998 (gBl (show Int32.toInt 1 = 1 by decide)) (by decide) (by decide), show Int32.toInt 1 = 1 from by decide]
  have bz640004 : gB z640004 1 16777217 := gB_add (gI_add hz640004 bp639998 (gBl (show Int32.toInt 1 = 1 by decide)) (by decide) (by decide)) bp639998 (gBl (show Int32.toInt 1 = 1 by decide)) (by decide) (by decide)
  refine Gw_callVB (As := [.int z640004]) (gV_ok D I) (cp_640016_AbstractStringBuilder_ensureCapacityInternal l hl0 D I P639992 F639993 q639994 q639995 z640004 p639997 p639998 f639999 n640000 hmq639994 hmq639995 heq639994 heq639995 ⟨by omega, by omega⟩ bp639997 bp639998 bf639999 (by have qa0 : Int32.toInt 0 = 0 := (by decide); omega) (by have qa0 : Int32.toInt 0 = 0 := (by decide); omega)) dr_cJ5_append_3fe6f_7 ⟨wr_8_0, wr_1_19, wr_8_3, by decide, rfl, (Nat.le_of_ble_eq_true rfl), (Nat.le_of_ble_eq_true rfl)⟩ wr_8_2 wr_s_0 hmq639994 heq639994 rfl (show 0 + 0 ≤ 0 by first | omega | decide) (show 0 + 0 ≤ 0 by first | omega | decide) (Nat.le_of_ble_eq_true rfl) (fun r640026 w640027 dc640023 ds640024 hp640025 => ?_) (fun _ _ _ _ _ z => z.elim)
  obtain ⟨rfl, rfl, hdc, hds⟩ := hp640025
  change G _ _ _ _ _ _ _ _ _ _ _
  refine G_widen (cs' := 0) (sl' := 0) (by omega) (by omega) ?_
  refine G_aload_n 0 dr_cJ5_append_3fe6f_10 rfl ?_
  refine Gw_callVB (As := []) (gV_ok D I) (cp_640037_AbstractStringBuilder_isLatin1 l hl0 D I P639992 F639993 q639994 q639995 p639997 p639998 f639999 n640000 hmq639994 hmq639995 heq639994 heq639995 bp639997 bp639998 bf639999 (by have qa0 : Int32.toInt 0 = 0 := (by decide); omega)) dr_cJ5_append_3fe6f_11 ⟨wr_8_29, wr_1_19, wr_8_33, by decide, rfl, (Nat.le_of_ble_eq_true rfl), (Nat.le_of_ble_eq_true rfl)⟩ wr_8_30 wr_8_32 hmq639994 heq639994 rfl (show 0 + 0 ≤ 0 by first | omega | decide) (show 0 + 0 ≤ 0 by first | omega | decide) (Nat.le_of_ble_eq_true rfl) (fun r640041 w640042 dc640038 ds640039 hp640040 => ?_) (fun _ _ _ _ _ z => z.elim)
  obtain ⟨rfl, rfl, hdc, hds⟩ := hp640040
  change G _ _ _ _ _ _ _ (.int 1 :: _) _ _ _
  refine G_widen (cs' := 0) (sl' := 0) (by omega) (by omega) ?_
  refine G_if_eq 45 dr_cJ5_append_3fe6f_14 (by decide +kernel) (fun hc => absurd hc (by decide)) (fun _ => ?_)
  refine G_iload_n 1 dr_cJ5_append_3fe6f_17 rfl ?_
  refine Gw_callS (As := [.int p639996]) (gV_ok D I) (cp_640046_StringLatin1_canEncode l hl0 D I P639992 F639993 p639996 (gB_w bp639996 (by decide) (by decide))) dr_cJ5_append_3fe6f_18 ⟨wr_8_34, wr_1_28, wr_8_36, by decide, rfl, (Nat.le_of_ble_eq_true rfl), (Nat.le_of_ble_eq_true rfl)⟩ wr_8_35 (show 0 + 0 ≤ 0 by first | omega | decide) (show 0 + 0 ≤ 0 by first | omega | decide) (Nat.le_of_ble_eq_true rfl) (fun r640053 w640054 dc640050 ds640051 hp640052 => ?_) (fun _ _ _ _ _ z => z.elim)
  rcases hp640052 with ⟨rfl, rfl, hdc, hds, r640055⟩ | ⟨rfl, rfl, hdc, hds, r640056⟩
  · exact absurd (show False by omega) not_false
  · change G _ _ _ _ _ _ _ (.int 1 :: _) _ _ _
    refine G_widen (cs' := 0) (sl' := 0) (by omega) (by omega) ?_
    refine G_if_eq 45 dr_cJ5_append_3fe6f_21 (by decide +kernel) (fun hc => absurd hc (by decide)) (fun _ => ?_)
    refine G_aload_n 0 dr_cJ5_append_3fe6f_24 rfl ?_
    refine Gp_get 0 hmq639994 heq639994 dr_cJ5_append_3fe6f_25 (gk_J4 D I) (Nat.le_of_ble_eq_true rfl) wr_7_60 rfl ?_
    refine G_aload_n 0 dr_cJ5_append_3fe6f_28 rfl ?_
    refine G_dup dr_cJ5_append_3fe6f_29 rfl ?_
    refine Gp_get 3 hmq639994 heq639994 dr_cJ5_append_3fe6f_30 (gk_J4 D I) (Nat.le_of_ble_eq_true rfl) wr_7_64 rfl ?_
    refine G_dup_x1 dr_cJ5_append_3fe6f_33 rfl rfl ?_
    refine G_iconst 1 dr_cJ5_append_3fe6f_34 (by decide +kernel) ?_
    refine G_iadd dr_cJ5_append_3fe6f_35 (G_nam fun z640058 hz640058 => ?_)
    have ez640058 : z640058.toInt = p639998.toInt + 1 := by rw [gI_add hz640058 bp639998 (gBl (show Int32.toInt 1 = 1 by decide)) (by decide) (by decide), show Int32.toInt 1 = 1 from by decide]
    have bz640058 : gB z640058 1 16777217 := gB_add (gI_add hz640058 bp639998 (gBl (show Int32.toInt 1 = 1 by decide)) (by decide) (by decide)) bp639998 (gBl (show Int32.toInt 1 = 1 by decide)) (by decide) (by decide)
    refine Gp_put 3 hmq639994 heq639994 dr_cJ5_append_3fe6f_36 (gk_J4 D I) (Nat.le_of_ble_eq_true rfl) wr_7_64 rfl rfl rfl (Nat.le_of_ble_eq_true rfl) (fun F640059 e640060 n640061 => ?_)
    have he640062 : F640059 q639995 = .inl (I .byte, n640000, .inl f639999) := (n640061 q639995 (rn_ao heq639995 heq639994)).trans heq639995
    have he640063 : F640059 q639994 = .inr (1, [.ref q639995, .int 0, .int p639997, .int z640058]) := e640060
    have hfr640064 : rFr [q639994] P639992 F639993 F640059 := rFr_put (rFr_rf (W := []) (P := P639992) (F := F639993)) n640061
    refine G_iload_n 1 dr_cJ5_append_3fe6f_39 rfl ?_
    refine G_i2b dr_cJ5_append_3fe6f_40 (G_nam fun z640065 hz640065 => ?_)
    have bz640065 : gB z640065 (-128) 127 := gB_i2b hz640065
    refine Gp_bast 1 hmq639995 he640062 dr_cJ5_append_3fe6f_41 rfl (gB_inr (by omega) (by omega)) (fun F640066 e640067 n640068 => ?_)
    obtain ⟨f640069, hf640069⟩ : ∃ z, z = upd f639999 p639998.toNatClampNeg (vp_nar .byte z640065) := ⟨_, rfl⟩
    rw [← hf640069] at e640067
    have he640070 : F640066 q639994 = .inr (1, [.ref q639995, .int 0, .int p639997, .int z640058]) := (n640068 q639994 (rn_oa he640063 he640062)).trans he640063
    have he640071 : F640066 q639995 = .inl (I .byte, n640000, .inl f640069) := e640067
    have hfr640072 : rFr [q639995, q639994] P639992 F639993 F640066 := rFr_put hfr640064 n640068
    have bf640069 : gF f640069 (-128) 127 := gF_upd hf640069 bf639999 gB_byte
    refine G_goto 75 dr_cJ5_append_3fe6f_42 (by decide +kernel) ?_
    refine G_aload_n 0 dr_cJ5_append_3fe6f_75 rfl ?_
    exact G_aretA (FieldType.object "java/lang/AbstractStringBuilder") dr_cJ5_append_3fe6f_76 rfl (by first | exact Or.inl ⟨_, rfl⟩ | exact Or.inr ⟨_, rfl⟩) (Or.inr ⟨_, rfl⟩) (Nat.le_of_ble_eq_true rfl) (Nat.le_of_ble_eq_true rfl) ⟨F640066, z640058, f640069, rfl, rfl, hfr640072, he640070, he640071, (Nat.le_of_ble_eq_true rfl), (Nat.le_of_ble_eq_true rfl), ⟨by omega, by omega⟩, bf640069, (by have qa0 : Int32.toInt 0 = 0 := (by decide); omega)⟩
abbrev ky_639991_StringBuilder_append : gKey := (cJ4_append_cf468, 2, "java/lang/StringBuilder", (some (FieldType.object "java/lang/StringBuilder")), [], "append", fun _ _ => True)
def pp_639991_StringBuilder_append (D : va_G) (I : FieldType → ClassId) (P639980 : List Nat) (F639981 : Nat → va_E) (q639982 : Nat) (q639983 : Nat) (p639984 : Int32) (p639985 : Int32) (p639986 : Int32) (f639987 : Nat → Int32) (n639988 : Nat) : Option Value → va_W → Nat → Nat → Prop := fun r w dc ds => ∃ (F640094 : Nat → va_E) (o640091 : Int32) (f640092 : Nat → Int32), r = some (.ref q639982) ∧ w = va_pl P639980 F640094 ∧ rFr [q639983, q639982] P639980 F639981 F640094 ∧ F640094 q639982 = .inr (1, [.ref q639983, .int 0, .int p639985, .int o640091]) ∧ F640094 q639983 = .inl (I .byte, n639988, .inl f640092) ∧ dc ≤ 0 ∧ ds ≤ 0 ∧ gB o640091 1 16777216 ∧ gF f640092 (-128) 127 ∧ o640091.toInt = p639986.toInt + 1
set_option maxRecDepth 100000 in
set_option maxHeartbeats 4000000 in
theorem cp_639991_StringBuilder_append (l : Launch) (hl0 : l.stackTraces = false) (D : va_G) (I : FieldType → ClassId) (P639980 : List Nat) (F639981 : Nat → va_E) (q639982 : Nat) (q639983 : Nat) (p639984 : Int32) (p639985 : Int32) (p639986 : Int32) (f639987 : Nat → Int32) (n639988 : Nat) (hmq639982 : q639982 ∈ P639980) (hmq639983 : q639983 ∈ P639980) (heq639982 : F639981 q639982 = .inr (1, [.ref q639983, .int 0, .int p639985, .int p639986])) (heq639983 : F639981 q639983 = .inl (I .byte, n639988, .inl f639987)) (bp639984 : gB p639984 0 255) (bp639985 : gB p639985 0 1) (bp639986 : gB p639986 0 16777216) (bf639987 : gF f639987 (-128) 127) (x639989 : p639986.toInt < (n639988 : Int)) (x639990 : ((n639988 : Int) ≤ 16777216)) : CtA (gV D I) l yJ4_append_cf468 cJ4_append_cf468 2 (some (FieldType.object "java/lang/StringBuilder")) 2 43 0 0 [.ref q639982, .int p639984] (va_pl P639980 F639981) (pp_639991_StringBuilder_append D I P639980 F639981 q639982 q639983 p639984 p639985 p639986 f639987 n639988) gNA := by
  refine CtA_ofF hl0 (by decide +kernel) (Nat.le_of_ble_eq_true rfl) ?_
  refine G_aload_n 0 dr_cJ4_append_cf468_0 rfl ?_
  refine G_iload_n 1 dr_cJ4_append_cf468_1 rfl ?_
  refine Gw_callSU (As := [.int p639984]) (gV_ok D I) (cp_640003_AbstractStringBuilder_append l hl0 D I P639980 F639981 q639982 q639983 p639984 p639985 p639986 f639987 n639988 hmq639982 hmq639983 heq639982 heq639983 bp639984 bp639985 bp639986 bf639987 (by have qa0 : Int32.toInt 0 = 0 := (by decide); omega) (by have qa0 : Int32.toInt 0 = 0 := (by decide); omega)) dr_cJ4_append_cf468_2 ⟨wr_7_237, wr_1_19, wr_7_239, by decide, rfl, (Nat.le_of_ble_eq_true rfl), (Nat.le_of_ble_eq_true rfl)⟩ wr_7_238 wr_11_220 wr_7_73 wr_7_44 (by decide) hmq639982 heq639982 rfl (show 0 + 0 ≤ 0 by first | omega | decide) (show 0 + 0 ≤ 0 by first | omega | decide) (Nat.le_of_ble_eq_true rfl) (fun r640080 w640081 dc640077 ds640078 hp640079 => ?_)
  obtain ⟨F640085, o640082, f640083, rfl, rfl, hfr640087, he640088, he640089, hdc, hds, bo640082, bf640083, x640084⟩ := hp640079
  have hfr640090 : rFr [q639983, q639982] P639980 F639981 F640085 := rFr_call (rSub_rf (P := P639980)) (rFr_rf (W := []) (P := P639980) (F := F639981)) hfr640087 (fun b hb hn => ⟨nm_n, (nm_c (fun e => hn (e ▸ List.mem_cons_self)) (nm_c (fun e => hn (e ▸ (List.mem_cons_of_mem _ List.mem_cons_self))) nm_n))⟩)
  change G _ _ _ _ _ _ _ (.ref q639982 :: _) _ _ _
  refine G_widen (cs' := 0) (sl' := 0) (by omega) (by omega) ?_
  refine G_pop dr_cJ4_append_cf468_5 rfl ?_
  refine G_aload_n 0 dr_cJ4_append_cf468_6 rfl ?_
  exact G_aretA (FieldType.object "java/lang/StringBuilder") dr_cJ4_append_cf468_7 rfl (by first | exact Or.inl ⟨_, rfl⟩ | exact Or.inr ⟨_, rfl⟩) (Or.inr ⟨_, rfl⟩) (Nat.le_of_ble_eq_true rfl) (Nat.le_of_ble_eq_true rfl) ⟨F640085, o640082, f640083, rfl, rfl, hfr640090, he640088, he640089, (Nat.le_of_ble_eq_true rfl), (Nat.le_of_ble_eq_true rfl), bo640082, bf640083, (by have qa0 : Int32.toInt 0 = 0 := (by decide); omega)⟩
abbrev ky_640152_AbstractStringBuilder_newCapacity : gKey := (cJ5_newCapacity_0f7a4, 6, "java/lang/AbstractStringBuilder", (some FieldType.int), [], "newCapacity", fun _ _ => True)
def pp_640152_AbstractStringBuilder_newCapacity (D : va_G) (I : FieldType → ClassId) (P640140 : List Nat) (F640141 : Nat → va_E) (q640142 : Nat) (q640143 : Nat) (p640144 : Int32) (p640145 : Int32) (p640146 : Int32) (f640147 : Nat → Int32) (n640148 : Nat) : Option Value → va_W → Nat → Nat → Prop := fun r w dc ds => ∃ (o640166 : Int32), r = some (.int o640166) ∧ w = va_pl P640140 F640141 ∧ dc ≤ 0 ∧ ds ≤ 0 ∧ gB o640166 1 33554432 ∧ p640144.toInt ≤ o640166.toInt ∧ 2 * (n640148 : Int) + 2 ≤ o640166.toInt ∧ (o640166.toInt ≤ 2 * (n640148 : Int) + 2 ∨ o640166.toInt ≤ p640144.toInt)
set_option maxRecDepth 100000 in
set_option maxHeartbeats 4000000 in
theorem cp_640152_AbstractStringBuilder_newCapacity (l : Launch) (hl0 : l.stackTraces = false) (D : va_G) (I : FieldType → ClassId) (P640140 : List Nat) (F640141 : Nat → va_E) (q640142 : Nat) (q640143 : Nat) (p640144 : Int32) (p640145 : Int32) (p640146 : Int32) (f640147 : Nat → Int32) (n640148 : Nat) (hmq640142 : q640142 ∈ P640140) (hmq640143 : q640143 ∈ P640140) (heq640142 : F640141 q640142 = .inr (1, [.ref q640143, .int 0, .int p640145, .int p640146])) (heq640143 : F640141 q640143 = .inl (I .byte, n640148, .inl f640147)) (bp640144 : gB p640144 0 8388608) (bp640145 : gB p640145 0 1) (bp640146 : gB p640146 0 16777216) (bf640147 : gF f640147 (-128) 127) (x640149 : (n640148 : Int) < p640144.toInt) (x640150 : (n640148 : Int) ≤ 8388608) (x640151 : ((n640148 : Int) ≤ 16777216)) : CtA (gV D I) l yJ5_newCapacity_0f7a4 cJ5_newCapacity_0f7a4 6 (some FieldType.int) 2 37 0 0 [.ref q640142, .int p640144] (va_pl P640140 F640141) (pp_640152_AbstractStringBuilder_newCapacity D I P640140 F640141 q640142 q640143 p640144 p640145 p640146 f640147 n640148) gNA := by
  refine CtA_ofF hl0 (by decide +kernel) (Nat.le_of_ble_eq_true rfl) ?_
  refine G_aload_n 0 dr_cJ5_newCapacity_0f7a4_0 rfl ?_
  refine Gp_get 0 hmq640142 heq640142 dr_cJ5_newCapacity_0f7a4_1 (gk_J4 D I) (Nat.le_of_ble_eq_true rfl) wr_7_60 rfl ?_
  refine Gp_alen (Int32.ofNat n640148) 1 hmq640143 heq640143 dr_cJ5_newCapacity_0f7a4_4 rfl rfl (G_nam fun z640153 hz640153 => ?_)
  have ez640153 : z640153.toInt = (n640148 : Nat) := gI_ofM hz640153 (by omega)
  have bz640153 : gB z640153 0 16777216 := ⟨by omega, by omega⟩
  refine G_istore_n (L' := [(2, .int z640153), (0, .ref q640142), (1, .int p640144)]) dr_cJ5_newCapacity_0f7a4_5 (Nat.le_of_ble_eq_true rfl) rfl ?_
  refine G_iload_n 2 dr_cJ5_newCapacity_0f7a4_6 rfl ?_
  refine G_aload_n 1 dr_cJ5_newCapacity_0f7a4_7 rfl ?_
  refine Gp_get 1 hmq640142 heq640142 dr_cJ5_newCapacity_0f7a4_8 (gk_J4 D I) (Nat.le_of_ble_eq_true rfl) wr_7_61 rfl ?_
  refine G_ishl dr_cJ5_newCapacity_0f7a4_11 (G_nam fun z640154 hz640154 => ?_)
  have ez640154 : z640154.toInt = p640144.toInt * 1 := gI_shl (k := 0) hz640154 (by decide) bp640144 (by decide) (by decide)
  have bz640154 : gB z640154 0 8388608 := ⟨by omega, by omega⟩
  refine G_istore_n (L' := [(3, .int z640154), (2, .int z640153), (0, .ref q640142), (1, .int p640144)]) dr_cJ5_newCapacity_0f7a4_12 (Nat.le_of_ble_eq_true rfl) rfl ?_
  refine G_iload_n 0 dr_cJ5_newCapacity_0f7a4_13 rfl ?_
  refine G_iload_n 1 dr_cJ5_newCapacity_0f7a4_14 rfl ?_
  refine G_isub dr_cJ5_newCapacity_0f7a4_15 (G_nam fun z640155 hz640155 => ?_)
  have ez640155 : z640155.toInt = z640154.toInt - z640153.toInt := by rw [gI_sub hz640155 bz640154 bz640153 (by decide) (by decide)]
  have bz640155 : gB z640155 (-16777216) 8388608 := gB_sub (gI_sub hz640155 bz640154 bz640153 (by decide) (by decide)) bz640154 bz640153 (by decide) (by decide)
  refine G_istore (L' := [(4, .int z640155), (3, .int z640154), (2, .int z640153), (0, .ref q640142), (1, .int p640144)]) dr_cJ5_newCapacity_0f7a4_16 (Nat.le_of_ble_eq_true rfl) rfl ?_
  refine G_iload_n 2 dr_cJ5_newCapacity_0f7a4_18 rfl ?_
  refine G_iload 0 dr_cJ5_newCapacity_0f7a4_19 rfl ?_
  refine G_iload_n 2 dr_cJ5_newCapacity_0f7a4_21 rfl ?_
  refine G_iconst 2 dr_cJ5_newCapacity_0f7a4_22 (by decide +kernel) ?_
  refine G_aload_n 3 dr_cJ5_newCapacity_0f7a4_23 rfl ?_
  refine Gp_get 1 hmq640142 heq640142 dr_cJ5_newCapacity_0f7a4_24 (gk_J4 D I) (Nat.le_of_ble_eq_true rfl) wr_7_61 rfl ?_
  refine G_ishl dr_cJ5_newCapacity_0f7a4_27 (G_nam fun z640156 hz640156 => ?_)
  have ez640156 : z640156.toInt = 2 * 1 := gI_shl (k := 0) hz640156 (by decide) (gBl (show Int32.toInt 2 = 2 by decide)) (by decide) (by decide)
  have bz640156 : gB z640156 2 2 := ⟨by omega, by omega⟩
  refine G_iadd dr_cJ5_newCapacity_0f7a4_28 (G_nam fun z640157 hz640157 => ?_)
  have ez640157 : z640157.toInt = z640153.toInt + z640156.toInt := by rw [gI_add hz640157 bz640153 bz640156 (by decide) (by decide)]
  have bz640157 : gB z640157 2 16777218 := gB_add (gI_add hz640157 bz640153 bz640156 (by decide) (by decide)) bz640153 bz640156 (by decide) (by decide)
  refine Gw_callS (As := [.int z640153, .int z640155, .int z640157]) (gV_ok D I) (cp_353_ArraysSupport_newLength l hl0 D I P640140 F640141 z640153 z640155 z640157 bz640153 ⟨by omega, by omega⟩ ⟨by omega, by omega⟩) dr_cJ5_newCapacity_0f7a4_29 ⟨wr_8_8, wr_1_33, wr_8_10, by decide, rfl, (Nat.le_of_ble_eq_true rfl), (Nat.le_of_ble_eq_true rfl)⟩ wr_8_9 (show 0 + 0 ≤ 0 by first | omega | decide) (show 0 + 0 ≤ 0 by first | omega | decide) (Nat.le_of_ble_eq_true rfl) (fun r640161 w640162 dc640158 ds640159 hp640160 => ?_) (fun _ _ _ _ _ z => z.elim)
  obtain ⟨o640163, rfl, rfl, hdc, hds, bo640163, x640164⟩ := hp640160
  change G _ _ _ _ _ _ _ (.int o640163 :: _) _ _ _
  refine G_widen (cs' := 0) (sl' := 0) (by omega) (by omega) ?_
  refine G_istore (L' := [(5, .int o640163), (4, .int z640155), (3, .int z640154), (2, .int z640153), (0, .ref q640142), (1, .int p640144)]) dr_cJ5_newCapacity_0f7a4_32 (Nat.le_of_ble_eq_true rfl) rfl ?_
  refine G_iload 0 dr_cJ5_newCapacity_0f7a4_34 rfl ?_
  refine G_ldc 2147483647 dr_cJ5_newCapacity_0f7a4_36 wr_8_16 ?_
  refine G_icmp_ne 51 dr_cJ5_newCapacity_0f7a4_38 (by decide +kernel) (fun _ => ?_) (fun hc => absurd (show False by have := gj_eq hc (show Int32.toInt 2147483647 = 2147483647 by decide); omega) not_false)
  refine G_iload 0 dr_cJ5_newCapacity_0f7a4_51 rfl ?_
  refine G_aload_n 4 dr_cJ5_newCapacity_0f7a4_53 rfl ?_
  refine Gp_get 1 hmq640142 heq640142 dr_cJ5_newCapacity_0f7a4_54 (gk_J4 D I) (Nat.le_of_ble_eq_true rfl) wr_7_61 rfl ?_
  refine G_ishr dr_cJ5_newCapacity_0f7a4_57 (G_nam fun z640165 hz640165 => ?_)
  have ez640165 : z640165.toInt = o640163.toInt / 1 := gI_shr (k := 0) hz640165 (by decide)
  have bz640165 : gB z640165 1 33554432 := ⟨by omega, by omega⟩
  exact G_iretA dr_cJ5_newCapacity_0f7a4_58 rfl (Nat.le_of_ble_eq_true rfl) (Nat.le_of_ble_eq_true rfl) ⟨z640165, rfl, rfl, (Nat.le_of_ble_eq_true rfl), (Nat.le_of_ble_eq_true rfl), bz640165, (by have qa0 : Int32.toInt 0 = 0 := (by decide); omega), (by have qa0 : Int32.toInt 0 = 0 := (by decide); omega), (by have qa0 : Int32.toInt 0 = 0 := (by decide); omega)⟩
abbrev ky_640185_Arrays_copyOf : gKey := (cJ7_copyOf_9075b, 3, "java/util/Arrays", (some (FieldType.array FieldType.byte)), [], "copyOf", fun _ _ => True)
def pp_640185_Arrays_copyOf (D : va_G) (I : FieldType → ClassId) (P640177 : List Nat) (F640178 : Nat → va_E) (q640179 : Nat) (p640180 : Int32) (f640181 : Nat → Int32) (n640182 : Nat) : Option Value → va_W → Nat → Nat → Prop := fun r w dc ds => ∃ (P640215 : List Nat) (F640216 : Nat → va_E) (q640213 : Nat) (f640214 : Nat → Int32), r = some (.ref q640213) ∧ w = va_pl P640215 F640216 ∧ rSub P640177 P640215 ∧ rFr [] P640177 F640178 F640216 ∧ F640216 q640179 = .inl (I .byte, n640182, .inl f640181) ∧ F640216 q640213 = .inl (I .byte, p640180.toInt.toNat, .inl f640214) ∧ q640213 ∈ P640215 ∧ q640213 ∉ P640177 ∧ dc ≤ 1 ∧ ds ≤ p640180.toInt.toNat ∧ gF f640214 (-128) 127
set_option maxRecDepth 100000 in
set_option maxHeartbeats 4000000 in
theorem cp_640185_Arrays_copyOf (l : Launch) (hl0 : l.stackTraces = false) (D : va_G) (I : FieldType → ClassId) (P640177 : List Nat) (F640178 : Nat → va_E) (q640179 : Nat) (p640180 : Int32) (f640181 : Nat → Int32) (n640182 : Nat) (hmq640179 : q640179 ∈ P640177) (heq640179 : F640178 q640179 = .inl (I .byte, n640182, .inl f640181)) (bp640180 : gB p640180 0 33554432) (bf640181 : gF f640181 (-128) 127) (x640183 : (n640182 : Int) < p640180.toInt) (x640184 : ((n640182 : Int) ≤ 16777216)) : CtA (gV D I) l yJ7_copyOf_9075b cJ7_copyOf_9075b 3 (some (FieldType.array FieldType.byte)) 1 18 1 p640180.toInt.toNat [.ref q640179, .int p640180] (va_pl P640177 F640178) (pp_640185_Arrays_copyOf D I P640177 F640178 q640179 p640180 f640181 n640182) gNA := by
  refine CtA_ofF hl0 (by decide +kernel) (Nat.le_of_ble_eq_true rfl) ?_
  refine G_iload_n 1 dr_cJ7_copyOf_9075b_0 rfl ?_
  refine G_aload_n 0 dr_cJ7_copyOf_9075b_1 rfl ?_
  refine Gp_alen (Int32.ofNat n640182) 1 hmq640179 heq640179 dr_cJ7_copyOf_9075b_2 rfl rfl (G_nam fun z640186 hz640186 => ?_)
  have ez640186 : z640186.toInt = (n640182 : Nat) := gI_ofM hz640186 (by omega)
  have bz640186 : gB z640186 0 16777216 := ⟨by omega, by omega⟩
  refine G_icmp_ne 14 dr_cJ7_copyOf_9075b_3 (by decide +kernel) (fun hc640187 => ?_) (fun hc => absurd (show False by have := gC_eq hc; omega) not_false)
  have r640189 : p640180.toInt ≠ z640186.toInt := gC_ne hc640187
  refine G_iload_n 1 dr_cJ7_copyOf_9075b_14 rfl ?_
  refine G_newa 1 (p640180.toInt.toNat, .inl (fun _ => 0)) dr_cJ7_copyOf_9075b_15 rfl rfl (by intro C h; cases h) wr_1_66 (fun _ => ga_byte _ _) (g_n0 (by omega)) rfl (show p640180.toInt.toNat * 1 ≤ 536870912 by omega) (show 0 + 1 ≤ 1 by first | omega | decide) (show 0 + p640180.toInt.toNat ≤ p640180.toInt.toNat by first | omega | decide) (fun q640190 => Gp_in (fun P640191 F640192 hq640193 hP640194 e640195 n640196 => ?_))
  refine G_widen (cs' := 1) (sl' := p640180.toInt.toNat) (by omega) (by omega) ?_
  have he640197 : F640192 q640179 = .inl (I .byte, n640182, .inl f640181) := (n640196 q640179 (fun h => hq640193 (h ▸ hmq640179))).trans heq640179
  have he640198 : F640192 q640190 = .inl (I .byte, p640180.toInt.toNat, .inl (fun _ => 0)) := e640195
  have hm640199 : q640179 ∈ P640191 := (hP640194 q640179).mpr (Or.inl hmq640179)
  have hm640200 : q640190 ∈ P640191 := (hP640194 q640190).mpr (Or.inr rfl)
  have hq640201 : q640190 ∉ P640177 := fun z => hq640193 ((rSub_rf (P := P640177)) q640190 z)
  have hfr640202 : rFr [] P640177 F640178 F640192 := rFr_new (rSub_rf (P := P640177)) hq640193 (rFr_rf (W := []) (P := P640177) (F := F640178)) n640196
  have hsb640203 : rSub P640177 P640191 := rSub_new (rSub_rf (P := P640177)) hP640194
  refine G_astore_n (L' := [(2, .ref q640190), (0, .ref q640179), (1, .int p640180)]) dr_cJ7_copyOf_9075b_17 (Nat.le_of_ble_eq_true rfl) rfl ?_
  refine G_aload_n 1 dr_cJ7_copyOf_9075b_18 rfl ?_
  refine G_iconst 0 dr_cJ7_copyOf_9075b_19 (by decide +kernel) ?_
  refine G_aload_n 0 dr_cJ7_copyOf_9075b_20 rfl ?_
  refine G_iconst 0 dr_cJ7_copyOf_9075b_21 (by decide +kernel) ?_
  refine G_aload_n 1 dr_cJ7_copyOf_9075b_22 rfl ?_
  refine Gp_alen (Int32.ofNat n640182) 1 hm640199 he640197 dr_cJ7_copyOf_9075b_23 rfl rfl (G_nam fun z640204 hz640204 => ?_)
  have ez640204 : z640204.toInt = (n640182 : Nat) := gI_ofM hz640204 (by omega)
  have bz640204 : gB z640204 0 16777216 := ⟨by omega, by omega⟩
  refine G_iload_n 2 dr_cJ7_copyOf_9075b_24 rfl ?_
  refine G_mmin dr_cJ7_copyOf_9075b_25 wr_8_27 wr_3_227 wr_1_6 wr_3_228 (Nat.le_of_ble_eq_true rfl) (Nat.le_of_ble_eq_true rfl) (show 1 ≤ 1 by first | omega | decide) (show p640180.toInt.toNat ≤ p640180.toInt.toNat by first | omega | decide) (G_nam fun z640205 hz640205 => ?_)
  have ez640205 : z640204.toInt ≥ z640205.toInt ∧ p640180.toInt ≥ z640205.toInt ∧ (z640205.toInt = z640204.toInt ∨ z640205.toInt = p640180.toInt) := by have := gI_min hz640205; omega
  have bz640205 : gB z640205 0 16777216 := ⟨by omega, by omega⟩
  refine Gp_copyp 1 hm640199 hm640200 he640197 he640198 dr_cJ7_copyOf_9075b_28 wr_8_28 wr_5_113 wr_5_112 wr_1_34 rfl rfl (fun j => gT_byte (bf640181 j)) (by decide) (by decide) (by omega) (by have qa0 : Int32.toInt 0 = 0 := (by decide); omega) (by have qa0 : Int32.toInt 0 = 0 := (by decide); omega) (Nat.le_of_ble_eq_true rfl) (Nat.le_of_ble_eq_true rfl) (fun F640206 e640207 n640208 => ?_)
  obtain ⟨f640209, hf640209⟩ : ∃ z, z = va_cpy f640181 (fun _ => 0) (0 : Int32).toNatClampNeg (0 : Int32).toNatClampNeg z640205.toNatClampNeg := ⟨_, rfl⟩
  rw [← hf640209] at e640207
  have bf640209 : gF f640209 (-128) 127 := gF_cpy hf640209 bf640181 (gF_w gF_0 (by decide) (by decide))
  have he640210 : F640206 q640179 = .inl (I .byte, n640182, .inl f640181) := (n640208 q640179 (fun h => hq640201 (h ▸ hmq640179))).trans he640197
  have he640211 : F640206 q640190 = .inl (I .byte, p640180.toInt.toNat, .inl f640209) := e640207
  have hfr640212 : rFr [] P640177 F640178 F640206 := rFr_newp hq640201 hfr640202 n640208
  refine G_aload_n 0 dr_cJ7_copyOf_9075b_31 rfl ?_
  exact G_aretA (FieldType.array FieldType.byte) dr_cJ7_copyOf_9075b_32 rfl (by first | exact Or.inl ⟨_, rfl⟩ | exact Or.inr ⟨_, rfl⟩) (Or.inr ⟨_, rfl⟩) (Nat.le_of_ble_eq_true rfl) (show p640180.toInt.toNat ≤ p640180.toInt.toNat by omega) ⟨P640191, F640206, q640190, f640209, rfl, rfl, hsb640203, hfr640212, he640210, he640211, hm640200, hq640201, (Nat.le_of_ble_eq_true rfl), (by omega), bf640209⟩
abbrev ky_640133_AbstractStringBuilder_ensureCapacityInternal : gKey := (cJ5_ensureCapacityInternal_d00df, 3, "java/lang/AbstractStringBuilder", none, [], "ensureCapacityInternal", fun _ _ => True)
def pp_640133_AbstractStringBuilder_ensureCapacityInternal (D : va_G) (I : FieldType → ClassId) (P640122 : List Nat) (F640123 : Nat → va_E) (q640124 : Nat) (q640125 : Nat) (p640126 : Int32) (p640127 : Int32) (p640128 : Int32) (f640129 : Nat → Int32) (n640130 : Nat) : Option Value → va_W → Nat → Nat → Prop := fun r w dc ds => ∃ (P640248 : List Nat) (F640249 : Nat → va_E) (q640245 : Nat) (n640246 : Nat) (f640247 : Nat → Int32), r = none ∧ w = va_pl P640248 F640249 ∧ rSub P640122 P640248 ∧ rFr [q640124] P640122 F640123 F640249 ∧ F640249 q640124 = .inr (1, [.ref q640245, .int 0, .int p640127, .int p640128]) ∧ F640249 q640245 = .inl (I .byte, n640246, .inl f640247) ∧ q640245 ∈ P640248 ∧ (q640245 = q640125 ∨ q640245 ∉ P640122) ∧ dc ≤ 1 ∧ ds ≤ 2 * (n640246 - n640130) ∧ gF f640247 (-128) 127 ∧ p640126.toInt ≤ (n640246 : Int) ∧ (n640130 : Int) ≤ (n640246 : Int) ∧ ((n640246 : Int) = (n640130 : Int) ∨ (n640130 : Int) < p640126.toInt) ∧ ((n640246 : Int) ≤ 2 * (n640130 : Int) + 2 ∨ (n640246 : Int) ≤ p640126.toInt)
set_option maxRecDepth 100000 in
set_option maxHeartbeats 4000000 in
theorem cp_640133_AbstractStringBuilder_ensureCapacityInternal (l : Launch) (hl0 : l.stackTraces = false) (D : va_G) (I : FieldType → ClassId) (P640122 : List Nat) (F640123 : Nat → va_E) (q640124 : Nat) (q640125 : Nat) (p640126 : Int32) (p640127 : Int32) (p640128 : Int32) (f640129 : Nat → Int32) (n640130 : Nat) (hmq640124 : q640124 ∈ P640122) (hmq640125 : q640125 ∈ P640122) (heq640124 : F640123 q640124 = .inr (1, [.ref q640125, .int 0, .int p640127, .int p640128])) (heq640125 : F640123 q640125 = .inl (I .byte, n640130, .inl f640129)) (bp640126 : gB p640126 0 8388608) (bp640127 : gB p640127 0 1) (bp640128 : gB p640128 0 16777216) (bf640129 : gF f640129 (-128) 127) (x640131 : (n640130 : Int) ≤ 8388608) (x640132 : ((n640130 : Int) ≤ 16777216)) : CtA (gV D I) l yJ5_ensureCapacityInternal_d00df cJ5_ensureCapacityInternal_d00df 3 none 3 62 1 (2 * n640130 + 2 + p640126.toInt.toNat) [.ref q640124, .int p640126] (va_pl P640122 F640123) (pp_640133_AbstractStringBuilder_ensureCapacityInternal D I P640122 F640123 q640124 q640125 p640126 p640127 p640128 f640129 n640130) gNA := by
  refine CtA_ofF hl0 (by decide +kernel) (Nat.le_of_ble_eq_true rfl) ?_
  refine G_aload_n 0 dr_cJ5_ensureCapacityInternal_d00df_0 rfl ?_
  refine Gp_get 0 hmq640124 heq640124 dr_cJ5_ensureCapacityInternal_d00df_1 (gk_J4 D I) (Nat.le_of_ble_eq_true rfl) wr_7_60 rfl ?_
  refine Gp_alen (Int32.ofNat n640130) 1 hmq640125 heq640125 dr_cJ5_ensureCapacityInternal_d00df_4 rfl rfl (G_nam fun z640134 hz640134 => ?_)
  have ez640134 : z640134.toInt = (n640130 : Nat) := gI_ofM hz640134 (by omega)
  have bz640134 : gB z640134 0 16777216 := ⟨by omega, by omega⟩
  refine G_aload_n 0 dr_cJ5_ensureCapacityInternal_d00df_5 rfl ?_
  refine Gp_get 1 hmq640124 heq640124 dr_cJ5_ensureCapacityInternal_d00df_6 (gk_J4 D I) (Nat.le_of_ble_eq_true rfl) wr_7_61 rfl ?_
  refine G_ishr dr_cJ5_ensureCapacityInternal_d00df_9 (G_nam fun z640135 hz640135 => ?_)
  have ez640135 : z640135.toInt = z640134.toInt / 1 := gI_shr (k := 0) hz640135 (by decide)
  have bz640135 : gB z640135 0 16777216 := ⟨by omega, by omega⟩
  refine G_istore_n (L' := [(2, .int z640135), (0, .ref q640124), (1, .int p640126)]) dr_cJ5_ensureCapacityInternal_d00df_10 (Nat.le_of_ble_eq_true rfl) rfl ?_
  refine G_iload_n 2 dr_cJ5_ensureCapacityInternal_d00df_11 rfl ?_
  refine G_iload_n 0 dr_cJ5_ensureCapacityInternal_d00df_12 rfl ?_
  refine G_isub dr_cJ5_ensureCapacityInternal_d00df_13 (G_nam fun z640136 hz640136 => ?_)
  have ez640136 : z640136.toInt = p640126.toInt - z640135.toInt := by rw [gI_sub hz640136 bp640126 bz640135 (by decide) (by decide)]
  have bz640136 : gB z640136 (-16777216) 8388608 := gB_sub (gI_sub hz640136 bp640126 bz640135 (by decide) (by decide)) bp640126 bz640135 (by decide) (by decide)
  refine G_if_le 38 dr_cJ5_ensureCapacityInternal_d00df_14 (by decide +kernel) (fun hc640137 => ?_) (fun hc640137 => ?_)
  · have r640138 : z640136.toInt ≤ 0 := gj_le hc640137 (show Int32.toInt 0 = 0 by decide)
    have bz640136' : gB z640136 (-16777216) 0 := ⟨by omega, by omega⟩
    exact G_vretA dr_cJ5_ensureCapacityInternal_d00df_38 rfl (Nat.le_of_ble_eq_true rfl) (Nat.le_of_ble_eq_true rfl) ⟨P640122, F640123, q640125, n640130, f640129, rfl, rfl, (rSub_rf (P := P640122)), (rFr_v (rFr_rf (W := []) (P := P640122) (F := F640123)) (fun b hn => nm_n)), heq640124, heq640125, hmq640125, (Or.inl rfl), (Nat.le_of_ble_eq_true rfl), (by omega), bf640129, (by have qa0 : Int32.toInt 0 = 0 := (by decide); omega), (by have qa0 : Int32.toInt 0 = 0 := (by decide); omega), (by have qa0 : Int32.toInt 0 = 0 := (by decide); omega), (by have qa0 : Int32.toInt 0 = 0 := (by decide); omega)⟩
  · have r640139 : 0 < z640136.toInt := gj_nle hc640137 (show Int32.toInt 0 = 0 by decide)
    have bz640136' : gB z640136 1 8388608 := ⟨by omega, by omega⟩
    refine G_aload_n 1 dr_cJ5_ensureCapacityInternal_d00df_17 rfl ?_
    refine G_aload_n 1 dr_cJ5_ensureCapacityInternal_d00df_18 rfl ?_
    refine Gp_get 0 hmq640124 heq640124 dr_cJ5_ensureCapacityInternal_d00df_19 (gk_J4 D I) (Nat.le_of_ble_eq_true rfl) wr_7_60 rfl ?_
    refine G_aload_n 1 dr_cJ5_ensureCapacityInternal_d00df_22 rfl ?_
    refine G_iload_n 2 dr_cJ5_ensureCapacityInternal_d00df_23 rfl ?_
    refine Gw_callVB (As := [.int p640126]) (gV_ok D I) (cp_640152_AbstractStringBuilder_newCapacity l hl0 D I P640122 F640123 q640124 q640125 p640126 p640127 p640128 f640129 n640130 hmq640124 hmq640125 heq640124 heq640125 bp640126 bp640127 bp640128 bf640129 (by have qa0 : Int32.toInt 0 = 0 := (by decide); omega) (by have qa0 : Int32.toInt 0 = 0 := (by decide); omega) (by have qa0 : Int32.toInt 0 = 0 := (by decide); omega)) dr_cJ5_ensureCapacityInternal_d00df_24 ⟨wr_8_4, wr_1_19, wr_8_7, by decide, rfl, (Nat.le_of_ble_eq_true rfl), (Nat.le_of_ble_eq_true rfl)⟩ wr_8_6 wr_s_1 hmq640124 heq640124 rfl (show 0 + 0 ≤ 1 by first | omega | decide) (show 0 + 0 ≤ (2 * n640130 + 2 + p640126.toInt.toNat) by first | omega | decide) (Nat.le_of_ble_eq_true rfl) (fun r640170 w640171 dc640167 ds640168 hp640169 => ?_) (fun _ _ _ _ _ z => z.elim)
    obtain ⟨o640172, rfl, rfl, hdc, hds, bo640172, x640173, x640174, x640175⟩ := hp640169
    change G _ _ _ _ _ _ _ (.int o640172 :: _) _ _ _
    refine G_widen (cs' := 0) (sl' := 0) (by omega) (by omega) ?_
    refine G_aload_n 1 dr_cJ5_ensureCapacityInternal_d00df_27 rfl ?_
    refine Gp_get 1 hmq640124 heq640124 dr_cJ5_ensureCapacityInternal_d00df_28 (gk_J4 D I) (Nat.le_of_ble_eq_true rfl) wr_7_61 rfl ?_
    refine G_ishl dr_cJ5_ensureCapacityInternal_d00df_31 (G_nam fun z640176 hz640176 => ?_)
    have ez640176 : z640176.toInt = o640172.toInt * 1 := gI_shl (k := 0) hz640176 (by decide) bo640172 (by decide) (by decide)
    have bz640176 : gB z640176 1 33554432 := ⟨by omega, by omega⟩
    refine Gw_callS (As := [.ref q640125, .int z640176]) (gV_ok D I) (cp_640185_Arrays_copyOf l hl0 D I P640122 F640123 q640125 z640176 f640129 n640130 hmq640125 heq640125 (gB_w bz640176 (by decide) (by decide)) bf640129 (by have qa0 : Int32.toInt 0 = 0 := (by decide); omega) (by have qa0 : Int32.toInt 0 = 0 := (by decide); omega)) dr_cJ5_ensureCapacityInternal_d00df_32 ⟨wr_8_17, wr_1_30, wr_8_19, by decide, rfl, (Nat.le_of_ble_eq_true rfl), (Nat.le_of_ble_eq_true rfl)⟩ wr_8_18 (show 0 + 1 ≤ 1 by first | omega | decide) (show 0 + z640176.toInt.toNat ≤ (2 * n640130 + 2 + p640126.toInt.toNat) by first | omega | decide) (Nat.le_of_ble_eq_true rfl) (fun r640220 w640221 dc640217 ds640218 hp640219 => ?_) (fun _ _ _ _ _ z => z.elim)
    obtain ⟨P640224, F640225, q640222, f640223, rfl, rfl, hsb640226, hfr640227, he640228, he640229, hm640230, hq640231, hdc, hds, bf640223⟩ := hp640219
    have hm640232 : q640124 ∈ P640224 := hsb640226 q640124 hmq640124
    have hm640233 : q640125 ∈ P640224 := hsb640226 q640125 hmq640125
    have hq640234 : q640222 ∉ P640122 := fun z => hq640231 ((rSub_rf (P := P640122)) q640222 z)
    have hsb640235 : rSub P640122 P640224 := rSub_tr (rSub_rf (P := P640122)) hsb640226
    have he640236 : F640225 q640124 = .inr (1, [.ref q640125, .int 0, .int p640127, .int p640128]) := (hfr640227 q640124 hmq640124 nm_n).trans heq640124
    have hfr640237 : rFr [] P640122 F640123 F640225 := rFr_call (rSub_rf (P := P640122)) (rFr_rf (W := []) (P := P640122) (F := F640123)) hfr640227 (fun b hb hn => ⟨nm_n, nm_n⟩)
    change G _ _ _ _ _ _ _ (.ref q640222 :: _) _ _ _
    refine G_widen (cs' := 1) (sl' := z640176.toInt.toNat) (by omega) (by omega) ?_
    refine Gp_put 0 hm640232 he640236 dr_cJ5_ensureCapacityInternal_d00df_35 (gk_J4 D I) (Nat.le_of_ble_eq_true rfl) wr_7_60 rfl rfl rfl (Nat.le_of_ble_eq_true rfl) (fun F640238 e640239 n640240 => ?_)
    have he640241 : F640238 q640125 = .inl (I .byte, n640130, .inl f640129) := (n640240 q640125 (rn_ao he640228 he640236)).trans he640228
    have he640242 : F640238 q640222 = .inl (I .byte, z640176.toInt.toNat, .inl f640223) := (n640240 q640222 (fun h => hq640234 (h ▸ hmq640124))).trans he640229
    have he640243 : F640238 q640124 = .inr (1, [.ref q640222, .int 0, .int p640127, .int p640128]) := e640239
    have hfr640244 : rFr [q640124] P640122 F640123 F640238 := rFr_put hfr640237 n640240
    exact G_vretA dr_cJ5_ensureCapacityInternal_d00df_38 rfl (Nat.le_of_ble_eq_true rfl) (show z640176.toInt.toNat ≤ (2 * n640130 + 2 + p640126.toInt.toNat) by omega) ⟨P640224, F640238, q640222, z640176.toInt.toNat, f640223, rfl, rfl, hsb640235, hfr640244, he640243, he640242, hm640230, (Or.inr hq640234), (Nat.le_of_ble_eq_true rfl), (by omega), bf640223, (by have qa0 : Int32.toInt 0 = 0 := (by decide); omega), (by have qa0 : Int32.toInt 0 = 0 := (by decide); omega), (by have qa0 : Int32.toInt 0 = 0 := (by decide); omega), (by have qa0 : Int32.toInt 0 = 0 := (by decide); omega)⟩
