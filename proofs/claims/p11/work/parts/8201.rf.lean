theorem dr_cJ5_length_8abf5_0 : decode cJ5_length_8abf5 0 = .ok (.aload_n 0, 1) := by decide +kernel
theorem dr_cJ5_length_8abf5_1 : decode cJ5_length_8abf5 1 = .ok (.getfield 79, 3) := by decide +kernel
theorem wr_7_64 : (Jvm.Cond.fieldLink "java/lang/AbstractStringBuilder" (79 : Nat) "java/lang/AbstractStringBuilder" "count" "I") ∈ gw := gw_7 64 rfl rfl
theorem dr_cJ5_length_8abf5_4 : decode cJ5_length_8abf5 4 = .ok (.ireturn, 1) := by decide +kernel
theorem dr_cJ4_length_8abf5_0 : decode cJ4_length_8abf5 0 = .ok (.aload_n 0, 1) := by decide +kernel
theorem dr_cJ4_length_8abf5_1 : decode cJ4_length_8abf5 1 = .ok (.invokespecial 343, 3) := by decide +kernel
theorem wr_8_90 : (Jvm.Cond.methodLink "java/lang/StringBuilder" (343 : Nat) ({ cls := "java/lang/AbstractStringBuilder", name := "length", desc := "()I" } : Jvm.MethodName)) ∈ gw := gw_8 90 rfl rfl
theorem wr_1_19 : (Jvm.Cond.initialized "java/lang/AbstractStringBuilder") ∈ gw := gw_1 19 rfl rfl
theorem wr_8_91 : (Jvm.Cond.code ({ cls := "java/lang/AbstractStringBuilder", name := "length", desc := "()I" } : Jvm.MethodName) prog_21_method_6_code (1 : Nat) (Option.some Jvm.ClassFile.FieldType.int)) ∈ gw := gw_8 91 rfl rfl
theorem wr_8_85 : (Jvm.Cond.instanceMethod ({ cls := "java/lang/AbstractStringBuilder", name := "length", desc := "()I" } : Jvm.MethodName)) ∈ gw := gw_8 85 rfl rfl
theorem wr_8_86 : (Jvm.Cond.sameMethod "java/lang/AbstractStringBuilder" "java/lang/AbstractStringBuilder" "length" "()I") ∈ gw := gw_8 86 rfl rfl
theorem wr_7_73 : (Jvm.Cond.superclass "java/lang/StringBuilder" "java/lang/AbstractStringBuilder") ∈ gw := gw_7 73 rfl rfl
theorem wr_7_44 : (Jvm.Cond.instantiable "java/lang/StringBuilder" (4 : Nat)) ∈ gw := gw_7 44 rfl rfl
theorem dr_cJ4_length_8abf5_4 : decode cJ4_length_8abf5 4 = .ok (.ireturn, 1) := by decide +kernel
theorem dr_cJ0_checkIndex_df160_0 : decode cJ0_checkIndex_df160 0 = .ok (.iload_n 0, 1) := by decide +kernel
theorem dr_cJ0_checkIndex_df160_1 : decode cJ0_checkIndex_df160 1 = .ok (.iload_n 1, 1) := by decide +kernel
theorem dr_cJ0_checkIndex_df160_2 : decode cJ0_checkIndex_df160 2 = .ok (.getstatic 1053, 3) := by decide +kernel
theorem wr_3_81 : (Jvm.Cond.fieldLink "java/lang/String" (1053 : Nat) "jdk/internal/util/Preconditions" "SIOOBE_FORMATTER" "Ljava/util/function/BiFunction;") ∈ gw := gw_3 81 rfl rfl
theorem dr_cJ0_checkIndex_df160_5 : decode cJ0_checkIndex_df160 5 = .ok (.invokestatic 1059, 3) := by decide +kernel
theorem wr_3_83 : (Jvm.Cond.methodLink "java/lang/String" (1059 : Nat) ({ cls := "jdk/internal/util/Preconditions", name := "checkIndex", desc := "(IILjava/util/function/BiFunction;)I" } : Jvm.MethodName)) ∈ gw := gw_3 83 rfl rfl
theorem dr_cJ0_checkIndex_df160_8 : decode cJ0_checkIndex_df160 8 = .ok (.pop, 1) := by decide +kernel
theorem dr_cJ0_checkIndex_df160_9 : decode cJ0_checkIndex_df160 9 = .ok (.return_, 1) := by decide +kernel
theorem dr_cJ5_charAt_5068e_0 : decode cJ5_charAt_5068e 0 = .ok (.aload_n 0, 1) := by decide +kernel
theorem dr_cJ5_charAt_5068e_1 : decode cJ5_charAt_5068e 1 = .ok (.getfield 22, 3) := by decide +kernel
theorem wr_7_61 : (Jvm.Cond.fieldLink "java/lang/AbstractStringBuilder" (22 : Nat) "java/lang/AbstractStringBuilder" "coder" "B") ∈ gw := gw_7 61 rfl rfl
theorem dr_cJ5_charAt_5068e_4 : decode cJ5_charAt_5068e 4 = .ok (.istore_n 2, 1) := by decide +kernel
theorem dr_cJ5_charAt_5068e_5 : decode cJ5_charAt_5068e 5 = .ok (.aload_n 0, 1) := by decide +kernel
theorem dr_cJ5_charAt_5068e_6 : decode cJ5_charAt_5068e 6 = .ok (.getfield 15, 3) := by decide +kernel
theorem wr_7_60 : (Jvm.Cond.fieldLink "java/lang/AbstractStringBuilder" (15 : Nat) "java/lang/AbstractStringBuilder" "value" "[B") ∈ gw := gw_7 60 rfl rfl
theorem dr_cJ5_charAt_5068e_9 : decode cJ5_charAt_5068e 9 = .ok (.astore_n 3, 1) := by decide +kernel
theorem dr_cJ5_charAt_5068e_10 : decode cJ5_charAt_5068e 10 = .ok (.aload_n 0, 1) := by decide +kernel
theorem dr_cJ5_charAt_5068e_11 : decode cJ5_charAt_5068e 11 = .ok (.getfield 79, 3) := by decide +kernel
theorem dr_cJ5_charAt_5068e_14 : decode cJ5_charAt_5068e 14 = .ok (.aload_n 3, 1) := by decide +kernel
theorem dr_cJ5_charAt_5068e_15 : decode cJ5_charAt_5068e 15 = .ok (.arraylength, 1) := by decide +kernel
theorem dr_cJ5_charAt_5068e_16 : decode cJ5_charAt_5068e 16 = .ok (.iload_n 2, 1) := by decide +kernel
theorem dr_cJ5_charAt_5068e_17 : decode cJ5_charAt_5068e 17 = .ok (.ishr, 1) := by decide +kernel
theorem dr_cJ5_charAt_5068e_18 : decode cJ5_charAt_5068e 18 = .ok (.invokestatic 138, 3) := by decide +kernel
theorem wr_11_216 : (Jvm.Cond.methodLink "java/lang/AbstractStringBuilder" (138 : Nat) ({ cls := "java/lang/Math", name := "min", desc := "(II)I" } : Jvm.MethodName)) ∈ gw := gw_11 216 rfl rfl
theorem dr_cJ5_charAt_5068e_21 : decode cJ5_charAt_5068e 21 = .ok (.istore 4, 2) := by decide +kernel
theorem dr_cJ5_charAt_5068e_23 : decode cJ5_charAt_5068e 23 = .ok (.iload_n 1, 1) := by decide +kernel
theorem dr_cJ5_charAt_5068e_24 : decode cJ5_charAt_5068e 24 = .ok (.iload 4, 2) := by decide +kernel
theorem dr_cJ5_charAt_5068e_26 : decode cJ5_charAt_5068e 26 = .ok (.invokestatic 144, 3) := by decide +kernel
theorem wr_11_217 : (Jvm.Cond.methodLink "java/lang/AbstractStringBuilder" (144 : Nat) ({ cls := "java/lang/String", name := "checkIndex", desc := "(II)V" } : Jvm.MethodName)) ∈ gw := gw_11 217 rfl rfl
theorem wr_1_21 : (Jvm.Cond.initialized "java/lang/String") ∈ gw := gw_1 21 rfl rfl
theorem wr_3_80 : (Jvm.Cond.code ({ cls := "java/lang/String", name := "checkIndex", desc := "(II)V" } : Jvm.MethodName) prog_34_method_155_code (2 : Nat) (Option.none : Option Jvm.ClassFile.FieldType)) ∈ gw := gw_3 80 rfl rfl
theorem wr_3_79 : (Jvm.Cond.static ({ cls := "java/lang/String", name := "checkIndex", desc := "(II)V" } : Jvm.MethodName)) ∈ gw := gw_3 79 rfl rfl
theorem dr_cJ5_charAt_5068e_29 : decode cJ5_charAt_5068e 29 = .ok (.iload_n 2, 1) := by decide +kernel
theorem dr_cJ5_charAt_5068e_30 : decode cJ5_charAt_5068e 30 = .ok (.ifCond .ne 12, 3) := by decide +kernel
theorem dr_cJ5_charAt_5068e_33 : decode cJ5_charAt_5068e 33 = .ok (.aload_n 3, 1) := by decide +kernel
theorem dr_cJ5_charAt_5068e_34 : decode cJ5_charAt_5068e 34 = .ok (.iload_n 1, 1) := by decide +kernel
theorem dr_cJ5_charAt_5068e_35 : decode cJ5_charAt_5068e 35 = .ok (.baload, 1) := by decide +kernel
theorem dr_cJ5_charAt_5068e_36 : decode cJ5_charAt_5068e 36 = .ok (.sipush 255, 3) := by decide +kernel
theorem dr_cJ5_charAt_5068e_39 : decode cJ5_charAt_5068e 39 = .ok (.iand, 1) := by decide +kernel
theorem dr_cJ5_charAt_5068e_40 : decode cJ5_charAt_5068e 40 = .ok (.i2c, 1) := by decide +kernel
theorem dr_cJ5_charAt_5068e_41 : decode cJ5_charAt_5068e 41 = .ok (.ireturn, 1) := by decide +kernel
theorem dr_cJ4_charAt_5068e_0 : decode cJ4_charAt_5068e 0 = .ok (.aload_n 0, 1) := by decide +kernel
theorem dr_cJ4_charAt_5068e_1 : decode cJ4_charAt_5068e 1 = .ok (.iload_n 1, 1) := by decide +kernel
theorem dr_cJ4_charAt_5068e_2 : decode cJ4_charAt_5068e 2 = .ok (.invokespecial 329, 3) := by decide +kernel
theorem wr_11_213 : (Jvm.Cond.methodLink "java/lang/StringBuilder" (329 : Nat) ({ cls := "java/lang/AbstractStringBuilder", name := "charAt", desc := "(I)C" } : Jvm.MethodName)) ∈ gw := gw_11 213 rfl rfl
theorem wr_11_215 : (Jvm.Cond.code ({ cls := "java/lang/AbstractStringBuilder", name := "charAt", desc := "(I)C" } : Jvm.MethodName) prog_21_method_14_code (5 : Nat) (Option.some Jvm.ClassFile.FieldType.char)) ∈ gw := gw_11 215 rfl rfl
theorem wr_11_214 : (Jvm.Cond.instanceMethod ({ cls := "java/lang/AbstractStringBuilder", name := "charAt", desc := "(I)C" } : Jvm.MethodName)) ∈ gw := gw_11 214 rfl rfl
theorem wr_11_235 : (Jvm.Cond.sameMethod "java/lang/AbstractStringBuilder" "java/lang/AbstractStringBuilder" "charAt" "(I)C") ∈ gw := gw_11 235 rfl rfl
theorem dr_cJ4_charAt_5068e_5 : decode cJ4_charAt_5068e 5 = .ok (.ireturn, 1) := by decide +kernel
theorem dr_cJ5_ensureCapacityInternal_d00df_0 : decode cJ5_ensureCapacityInternal_d00df 0 = .ok (.aload_n 0, 1) := by decide +kernel
theorem dr_cJ5_ensureCapacityInternal_d00df_1 : decode cJ5_ensureCapacityInternal_d00df 1 = .ok (.getfield 15, 3) := by decide +kernel
theorem dr_cJ5_ensureCapacityInternal_d00df_4 : decode cJ5_ensureCapacityInternal_d00df 4 = .ok (.arraylength, 1) := by decide +kernel
theorem dr_cJ5_ensureCapacityInternal_d00df_5 : decode cJ5_ensureCapacityInternal_d00df 5 = .ok (.aload_n 0, 1) := by decide +kernel
theorem dr_cJ5_ensureCapacityInternal_d00df_6 : decode cJ5_ensureCapacityInternal_d00df 6 = .ok (.getfield 22, 3) := by decide +kernel
theorem dr_cJ5_ensureCapacityInternal_d00df_9 : decode cJ5_ensureCapacityInternal_d00df 9 = .ok (.ishr, 1) := by decide +kernel
theorem dr_cJ5_ensureCapacityInternal_d00df_10 : decode cJ5_ensureCapacityInternal_d00df 10 = .ok (.istore_n 2, 1) := by decide +kernel
theorem dr_cJ5_ensureCapacityInternal_d00df_11 : decode cJ5_ensureCapacityInternal_d00df 11 = .ok (.iload_n 1, 1) := by decide +kernel
theorem dr_cJ5_ensureCapacityInternal_d00df_12 : decode cJ5_ensureCapacityInternal_d00df 12 = .ok (.iload_n 2, 1) := by decide +kernel
theorem dr_cJ5_ensureCapacityInternal_d00df_13 : decode cJ5_ensureCapacityInternal_d00df 13 = .ok (.isub, 1) := by decide +kernel
theorem dr_cJ5_ensureCapacityInternal_d00df_14 : decode cJ5_ensureCapacityInternal_d00df 14 = .ok (.ifCond .le 24, 3) := by decide +kernel
theorem dr_cJ5_ensureCapacityInternal_d00df_38 : decode cJ5_ensureCapacityInternal_d00df 38 = .ok (.return_, 1) := by decide +kernel
theorem dr_cJ5_isLatin1_aae02_0 : decode cJ5_isLatin1_aae02 0 = .ok (.getstatic 18, 3) := by decide +kernel
theorem wr_7_52 : (Jvm.Cond.fieldLink "java/lang/AbstractStringBuilder" (18 : Nat) "java/lang/String" "COMPACT_STRINGS" "Z") ∈ gw := gw_7 52 rfl rfl
theorem dr_cJ5_isLatin1_aae02_3 : decode cJ5_isLatin1_aae02 3 = .ok (.ifCond .eq 14, 3) := by decide +kernel
theorem dr_cJ5_isLatin1_aae02_6 : decode cJ5_isLatin1_aae02 6 = .ok (.aload_n 0, 1) := by decide +kernel
theorem dr_cJ5_isLatin1_aae02_7 : decode cJ5_isLatin1_aae02 7 = .ok (.getfield 22, 3) := by decide +kernel
theorem dr_cJ5_isLatin1_aae02_10 : decode cJ5_isLatin1_aae02 10 = .ok (.ifCond .ne 7, 3) := by decide +kernel
theorem dr_cJ5_isLatin1_aae02_13 : decode cJ5_isLatin1_aae02 13 = .ok (.iconst 1, 1) := by decide +kernel
theorem dr_cJ5_isLatin1_aae02_14 : decode cJ5_isLatin1_aae02 14 = .ok (.goto 4, 3) := by decide +kernel
theorem dr_cJ5_isLatin1_aae02_18 : decode cJ5_isLatin1_aae02 18 = .ok (.ireturn, 1) := by decide +kernel
theorem dr_cJ1_canEncode_fc78d_0 : decode cJ1_canEncode_fc78d 0 = .ok (.iload_n 0, 1) := by decide +kernel
theorem dr_cJ1_canEncode_fc78d_1 : decode cJ1_canEncode_fc78d 1 = .ok (.sipush 255, 3) := by decide +kernel
theorem dr_cJ1_canEncode_fc78d_4 : decode cJ1_canEncode_fc78d 4 = .ok (.if_icmp .gt 7, 3) := by decide +kernel
theorem dr_cJ1_canEncode_fc78d_11 : decode cJ1_canEncode_fc78d 11 = .ok (.iconst 0, 1) := by decide +kernel
theorem dr_cJ1_canEncode_fc78d_12 : decode cJ1_canEncode_fc78d 12 = .ok (.ireturn, 1) := by decide +kernel
theorem dr_cJ1_canEncode_fc78d_7 : decode cJ1_canEncode_fc78d 7 = .ok (.iconst 1, 1) := by decide +kernel
theorem dr_cJ1_canEncode_fc78d_8 : decode cJ1_canEncode_fc78d 8 = .ok (.goto 4, 3) := by decide +kernel
theorem dr_cJ5_append_3fe6f_0 : decode cJ5_append_3fe6f 0 = .ok (.aload_n 0, 1) := by decide +kernel
theorem dr_cJ5_append_3fe6f_1 : decode cJ5_append_3fe6f 1 = .ok (.aload_n 0, 1) := by decide +kernel
theorem dr_cJ5_append_3fe6f_2 : decode cJ5_append_3fe6f 2 = .ok (.getfield 79, 3) := by decide +kernel
theorem dr_cJ5_append_3fe6f_5 : decode cJ5_append_3fe6f 5 = .ok (.iconst 1, 1) := by decide +kernel
theorem dr_cJ5_append_3fe6f_6 : decode cJ5_append_3fe6f 6 = .ok (.iadd, 1) := by decide +kernel
theorem dr_cJ5_append_3fe6f_7 : decode cJ5_append_3fe6f 7 = .ok (.invokevirtual 100, 3) := by decide +kernel
theorem wr_8_4 : (Jvm.Cond.methodLink "java/lang/AbstractStringBuilder" (100 : Nat) ({ cls := "java/lang/AbstractStringBuilder", name := "ensureCapacityInternal", desc := "(I)V" } : Jvm.MethodName)) ∈ gw := gw_8 4 rfl rfl
theorem wr_8_7 : (Jvm.Cond.code ({ cls := "java/lang/AbstractStringBuilder", name := "ensureCapacityInternal", desc := "(I)V" } : Jvm.MethodName) prog_21_method_9_code (3 : Nat) (Option.none : Option Jvm.ClassFile.FieldType)) ∈ gw := gw_8 7 rfl rfl
theorem wr_8_6 : (Jvm.Cond.instanceMethod ({ cls := "java/lang/AbstractStringBuilder", name := "ensureCapacityInternal", desc := "(I)V" } : Jvm.MethodName)) ∈ gw := gw_8 6 rfl rfl
theorem wr_s_0 : Cond.selects "java/lang/StringBuilder" ⟨"java/lang/AbstractStringBuilder", "ensureCapacityInternal", "(I)V"⟩ ⟨"java/lang/AbstractStringBuilder", "ensureCapacityInternal", "(I)V"⟩ ∈ gw := gw_s _ 0 rfl rfl rfl
theorem dr_cJ5_append_3fe6f_10 : decode cJ5_append_3fe6f 10 = .ok (.aload_n 0, 1) := by decide +kernel
theorem dr_cJ5_append_3fe6f_11 : decode cJ5_append_3fe6f 11 = .ok (.invokevirtual 83, 3) := by decide +kernel
theorem wr_8_33 : (Jvm.Cond.methodLink "java/lang/AbstractStringBuilder" (83 : Nat) ({ cls := "java/lang/AbstractStringBuilder", name := "isLatin1", desc := "()Z" } : Jvm.MethodName)) ∈ gw := gw_8 33 rfl rfl
theorem wr_8_37 : (Jvm.Cond.code ({ cls := "java/lang/AbstractStringBuilder", name := "isLatin1", desc := "()Z" } : Jvm.MethodName) prog_21_method_68_code (1 : Nat) (Option.some Jvm.ClassFile.FieldType.boolean)) ∈ gw := gw_8 37 rfl rfl
theorem wr_8_34 : (Jvm.Cond.instanceMethod ({ cls := "java/lang/AbstractStringBuilder", name := "isLatin1", desc := "()Z" } : Jvm.MethodName)) ∈ gw := gw_8 34 rfl rfl
theorem wr_8_36 : (Jvm.Cond.selects "java/lang/StringBuilder" ({ cls := "java/lang/AbstractStringBuilder", name := "isLatin1", desc := "()Z" } : Jvm.MethodName) ({ cls := "java/lang/AbstractStringBuilder", name := "isLatin1", desc := "()Z" } : Jvm.MethodName)) ∈ gw := gw_8 36 rfl rfl
theorem dr_cJ5_append_3fe6f_14 : decode cJ5_append_3fe6f 14 = .ok (.ifCond .eq 31, 3) := by decide +kernel
theorem dr_cJ5_append_3fe6f_17 : decode cJ5_append_3fe6f 17 = .ok (.iload_n 1, 1) := by decide +kernel
theorem dr_cJ5_append_3fe6f_18 : decode cJ5_append_3fe6f 18 = .ok (.invokestatic 191, 3) := by decide +kernel
theorem wr_8_38 : (Jvm.Cond.methodLink "java/lang/AbstractStringBuilder" (191 : Nat) ({ cls := "java/lang/StringLatin1", name := "canEncode", desc := "(C)Z" } : Jvm.MethodName)) ∈ gw := gw_8 38 rfl rfl
theorem wr_1_28 : (Jvm.Cond.initialized "java/lang/StringLatin1") ∈ gw := gw_1 28 rfl rfl
theorem wr_8_40 : (Jvm.Cond.code ({ cls := "java/lang/StringLatin1", name := "canEncode", desc := "(C)Z" } : Jvm.MethodName) prog_37_method_3_code (1 : Nat) (Option.some Jvm.ClassFile.FieldType.boolean)) ∈ gw := gw_8 40 rfl rfl
theorem wr_8_39 : (Jvm.Cond.static ({ cls := "java/lang/StringLatin1", name := "canEncode", desc := "(C)Z" } : Jvm.MethodName)) ∈ gw := gw_8 39 rfl rfl
theorem dr_cJ5_append_3fe6f_21 : decode cJ5_append_3fe6f 21 = .ok (.ifCond .eq 24, 3) := by decide +kernel
theorem dr_cJ5_append_3fe6f_24 : decode cJ5_append_3fe6f 24 = .ok (.aload_n 0, 1) := by decide +kernel
theorem dr_cJ5_append_3fe6f_25 : decode cJ5_append_3fe6f 25 = .ok (.getfield 15, 3) := by decide +kernel
theorem dr_cJ5_append_3fe6f_28 : decode cJ5_append_3fe6f 28 = .ok (.aload_n 0, 1) := by decide +kernel
theorem dr_cJ5_append_3fe6f_29 : decode cJ5_append_3fe6f 29 = .ok (.dup, 1) := by decide +kernel
theorem dr_cJ5_append_3fe6f_30 : decode cJ5_append_3fe6f 30 = .ok (.getfield 79, 3) := by decide +kernel
theorem dr_cJ5_append_3fe6f_33 : decode cJ5_append_3fe6f 33 = .ok (.dup_x1, 1) := by decide +kernel
theorem dr_cJ5_append_3fe6f_34 : decode cJ5_append_3fe6f 34 = .ok (.iconst 1, 1) := by decide +kernel
theorem dr_cJ5_append_3fe6f_35 : decode cJ5_append_3fe6f 35 = .ok (.iadd, 1) := by decide +kernel
theorem dr_cJ5_append_3fe6f_36 : decode cJ5_append_3fe6f 36 = .ok (.putfield 79, 3) := by decide +kernel
theorem dr_cJ5_append_3fe6f_39 : decode cJ5_append_3fe6f 39 = .ok (.iload_n 1, 1) := by decide +kernel
theorem dr_cJ5_append_3fe6f_40 : decode cJ5_append_3fe6f 40 = .ok (.i2b, 1) := by decide +kernel
theorem dr_cJ5_append_3fe6f_41 : decode cJ5_append_3fe6f 41 = .ok (.bastore, 1) := by decide +kernel
theorem dr_cJ5_append_3fe6f_42 : decode cJ5_append_3fe6f 42 = .ok (.goto 33, 3) := by decide +kernel
theorem dr_cJ5_append_3fe6f_75 : decode cJ5_append_3fe6f 75 = .ok (.aload_n 0, 1) := by decide +kernel
theorem dr_cJ5_append_3fe6f_76 : decode cJ5_append_3fe6f 76 = .ok (.areturn, 1) := by decide +kernel
theorem dr_cJ4_append_cf468_0 : decode cJ4_append_cf468 0 = .ok (.aload_n 0, 1) := by decide +kernel
theorem dr_cJ4_append_cf468_1 : decode cJ4_append_cf468 1 = .ok (.iload_n 1, 1) := by decide +kernel
theorem dr_cJ4_append_cf468_2 : decode cJ4_append_cf468 2 = .ok (.invokespecial 50, 3) := by decide +kernel
theorem wr_8_1 : (Jvm.Cond.methodLink "java/lang/StringBuilder" (50 : Nat) ({ cls := "java/lang/AbstractStringBuilder", name := "append", desc := "(C)Ljava/lang/AbstractStringBuilder;" } : Jvm.MethodName)) ∈ gw := gw_8 1 rfl rfl
theorem wr_8_3 : (Jvm.Cond.code ({ cls := "java/lang/AbstractStringBuilder", name := "append", desc := "(C)Ljava/lang/AbstractStringBuilder;" } : Jvm.MethodName) prog_21_method_31_code (2 : Nat) (Option.some (Jvm.ClassFile.FieldType.object "java/lang/AbstractStringBuilder"))) ∈ gw := gw_8 3 rfl rfl
theorem wr_8_2 : (Jvm.Cond.instanceMethod ({ cls := "java/lang/AbstractStringBuilder", name := "append", desc := "(C)Ljava/lang/AbstractStringBuilder;" } : Jvm.MethodName)) ∈ gw := gw_8 2 rfl rfl
theorem wr_11_224 : (Jvm.Cond.sameMethod "java/lang/AbstractStringBuilder" "java/lang/AbstractStringBuilder" "append" "(C)Ljava/lang/AbstractStringBuilder;") ∈ gw := gw_11 224 rfl rfl
theorem dr_cJ4_append_cf468_5 : decode cJ4_append_cf468 5 = .ok (.pop, 1) := by decide +kernel
theorem dr_cJ4_append_cf468_6 : decode cJ4_append_cf468 6 = .ok (.aload_n 0, 1) := by decide +kernel
theorem dr_cJ4_append_cf468_7 : decode cJ4_append_cf468 7 = .ok (.areturn, 1) := by decide +kernel
theorem dr_cJ5_newCapacity_0f7a4_0 : decode cJ5_newCapacity_0f7a4 0 = .ok (.aload_n 0, 1) := by decide +kernel
theorem dr_cJ5_newCapacity_0f7a4_1 : decode cJ5_newCapacity_0f7a4 1 = .ok (.getfield 15, 3) := by decide +kernel
theorem dr_cJ5_newCapacity_0f7a4_4 : decode cJ5_newCapacity_0f7a4 4 = .ok (.arraylength, 1) := by decide +kernel
theorem dr_cJ5_newCapacity_0f7a4_5 : decode cJ5_newCapacity_0f7a4 5 = .ok (.istore_n 2, 1) := by decide +kernel
theorem dr_cJ5_newCapacity_0f7a4_6 : decode cJ5_newCapacity_0f7a4 6 = .ok (.iload_n 1, 1) := by decide +kernel
theorem dr_cJ5_newCapacity_0f7a4_7 : decode cJ5_newCapacity_0f7a4 7 = .ok (.aload_n 0, 1) := by decide +kernel
theorem dr_cJ5_newCapacity_0f7a4_8 : decode cJ5_newCapacity_0f7a4 8 = .ok (.getfield 22, 3) := by decide +kernel
theorem dr_cJ5_newCapacity_0f7a4_11 : decode cJ5_newCapacity_0f7a4 11 = .ok (.ishl, 1) := by decide +kernel
theorem dr_cJ5_newCapacity_0f7a4_12 : decode cJ5_newCapacity_0f7a4 12 = .ok (.istore_n 3, 1) := by decide +kernel
theorem dr_cJ5_newCapacity_0f7a4_13 : decode cJ5_newCapacity_0f7a4 13 = .ok (.iload_n 3, 1) := by decide +kernel
theorem dr_cJ5_newCapacity_0f7a4_14 : decode cJ5_newCapacity_0f7a4 14 = .ok (.iload_n 2, 1) := by decide +kernel
theorem dr_cJ5_newCapacity_0f7a4_15 : decode cJ5_newCapacity_0f7a4 15 = .ok (.isub, 1) := by decide +kernel
theorem dr_cJ5_newCapacity_0f7a4_16 : decode cJ5_newCapacity_0f7a4 16 = .ok (.istore 4, 2) := by decide +kernel
theorem dr_cJ5_newCapacity_0f7a4_18 : decode cJ5_newCapacity_0f7a4 18 = .ok (.iload_n 2, 1) := by decide +kernel
theorem dr_cJ5_newCapacity_0f7a4_19 : decode cJ5_newCapacity_0f7a4 19 = .ok (.iload 4, 2) := by decide +kernel
theorem dr_cJ5_newCapacity_0f7a4_21 : decode cJ5_newCapacity_0f7a4 21 = .ok (.iload_n 2, 1) := by decide +kernel
theorem dr_cJ5_newCapacity_0f7a4_22 : decode cJ5_newCapacity_0f7a4 22 = .ok (.iconst 2, 1) := by decide +kernel
theorem dr_cJ5_newCapacity_0f7a4_23 : decode cJ5_newCapacity_0f7a4 23 = .ok (.aload_n 0, 1) := by decide +kernel
theorem dr_cJ5_newCapacity_0f7a4_24 : decode cJ5_newCapacity_0f7a4 24 = .ok (.getfield 22, 3) := by decide +kernel
theorem dr_cJ5_newCapacity_0f7a4_27 : decode cJ5_newCapacity_0f7a4 27 = .ok (.ishl, 1) := by decide +kernel
theorem dr_cJ5_newCapacity_0f7a4_28 : decode cJ5_newCapacity_0f7a4 28 = .ok (.iadd, 1) := by decide +kernel
theorem dr_cJ5_newCapacity_0f7a4_29 : decode cJ5_newCapacity_0f7a4 29 = .ok (.invokestatic 114, 3) := by decide +kernel
theorem wr_8_12 : (Jvm.Cond.methodLink "java/lang/AbstractStringBuilder" (114 : Nat) ({ cls := "jdk/internal/util/ArraysSupport", name := "newLength", desc := "(III)I" } : Jvm.MethodName)) ∈ gw := gw_8 12 rfl rfl
theorem dr_cJ5_newCapacity_0f7a4_32 : decode cJ5_newCapacity_0f7a4 32 = .ok (.istore 5, 2) := by decide +kernel
theorem dr_cJ5_newCapacity_0f7a4_34 : decode cJ5_newCapacity_0f7a4 34 = .ok (.iload 5, 2) := by decide +kernel
theorem dr_cJ5_newCapacity_0f7a4_36 : decode cJ5_newCapacity_0f7a4 36 = .ok (.ldc 39, 2) := by decide +kernel
theorem wr_8_20 : (Jvm.Cond.constant "java/lang/AbstractStringBuilder" (39 : Nat) (2147483647 : Int32)) ∈ gw := gw_8 20 rfl rfl
theorem dr_cJ5_newCapacity_0f7a4_38 : decode cJ5_newCapacity_0f7a4 38 = .ok (.if_icmp .ne 13, 3) := by decide +kernel
theorem dr_cJ5_newCapacity_0f7a4_51 : decode cJ5_newCapacity_0f7a4 51 = .ok (.iload 5, 2) := by decide +kernel
theorem dr_cJ5_newCapacity_0f7a4_53 : decode cJ5_newCapacity_0f7a4 53 = .ok (.aload_n 0, 1) := by decide +kernel
theorem dr_cJ5_newCapacity_0f7a4_54 : decode cJ5_newCapacity_0f7a4 54 = .ok (.getfield 22, 3) := by decide +kernel
theorem dr_cJ5_newCapacity_0f7a4_57 : decode cJ5_newCapacity_0f7a4 57 = .ok (.ishr, 1) := by decide +kernel
theorem dr_cJ5_newCapacity_0f7a4_58 : decode cJ5_newCapacity_0f7a4 58 = .ok (.ireturn, 1) := by decide +kernel
theorem dr_cJ7_copyOf_9075b_0 : decode cJ7_copyOf_9075b 0 = .ok (.iload_n 1, 1) := by decide +kernel
theorem dr_cJ7_copyOf_9075b_1 : decode cJ7_copyOf_9075b 1 = .ok (.aload_n 0, 1) := by decide +kernel
theorem dr_cJ7_copyOf_9075b_2 : decode cJ7_copyOf_9075b 2 = .ok (.arraylength, 1) := by decide +kernel
theorem dr_cJ7_copyOf_9075b_3 : decode cJ7_copyOf_9075b 3 = .ok (.if_icmp .ne 11, 3) := by decide +kernel
theorem dr_cJ7_copyOf_9075b_14 : decode cJ7_copyOf_9075b 14 = .ok (.iload_n 1, 1) := by decide +kernel
theorem dr_cJ7_copyOf_9075b_15 : decode cJ7_copyOf_9075b 15 = .ok (.newarray .byte, 2) := by decide +kernel
theorem wr_1_66 : (Jvm.Cond.arrayClass Jvm.ClassFile.FieldType.byte) ∈ gw := gw_1 66 rfl rfl
theorem dr_cJ7_copyOf_9075b_17 : decode cJ7_copyOf_9075b 17 = .ok (.astore_n 2, 1) := by decide +kernel
theorem dr_cJ7_copyOf_9075b_18 : decode cJ7_copyOf_9075b 18 = .ok (.aload_n 0, 1) := by decide +kernel
theorem dr_cJ7_copyOf_9075b_19 : decode cJ7_copyOf_9075b 19 = .ok (.iconst 0, 1) := by decide +kernel
theorem dr_cJ7_copyOf_9075b_20 : decode cJ7_copyOf_9075b 20 = .ok (.aload_n 2, 1) := by decide +kernel
theorem dr_cJ7_copyOf_9075b_21 : decode cJ7_copyOf_9075b 21 = .ok (.iconst 0, 1) := by decide +kernel
theorem dr_cJ7_copyOf_9075b_22 : decode cJ7_copyOf_9075b 22 = .ok (.aload_n 0, 1) := by decide +kernel
theorem dr_cJ7_copyOf_9075b_23 : decode cJ7_copyOf_9075b 23 = .ok (.arraylength, 1) := by decide +kernel
theorem dr_cJ7_copyOf_9075b_24 : decode cJ7_copyOf_9075b 24 = .ok (.iload_n 1, 1) := by decide +kernel
theorem dr_cJ7_copyOf_9075b_25 : decode cJ7_copyOf_9075b 25 = .ok (.invokestatic 304, 3) := by decide +kernel
theorem dr_cJ7_copyOf_9075b_28 : decode cJ7_copyOf_9075b 28 = .ok (.invokestatic 150, 3) := by decide +kernel
theorem dr_cJ7_copyOf_9075b_31 : decode cJ7_copyOf_9075b 31 = .ok (.aload_n 2, 1) := by decide +kernel
theorem dr_cJ7_copyOf_9075b_32 : decode cJ7_copyOf_9075b 32 = .ok (.areturn, 1) := by decide +kernel
theorem dr_cJ5_ensureCapacityInternal_d00df_17 : decode cJ5_ensureCapacityInternal_d00df 17 = .ok (.aload_n 0, 1) := by decide +kernel
theorem dr_cJ5_ensureCapacityInternal_d00df_18 : decode cJ5_ensureCapacityInternal_d00df 18 = .ok (.aload_n 0, 1) := by decide +kernel
theorem dr_cJ5_ensureCapacityInternal_d00df_19 : decode cJ5_ensureCapacityInternal_d00df 19 = .ok (.getfield 15, 3) := by decide +kernel
theorem dr_cJ5_ensureCapacityInternal_d00df_22 : decode cJ5_ensureCapacityInternal_d00df 22 = .ok (.aload_n 0, 1) := by decide +kernel
theorem dr_cJ5_ensureCapacityInternal_d00df_23 : decode cJ5_ensureCapacityInternal_d00df 23 = .ok (.iload_n 1, 1) := by decide +kernel
theorem dr_cJ5_ensureCapacityInternal_d00df_24 : decode cJ5_ensureCapacityInternal_d00df 24 = .ok (.invokevirtual 104, 3) := by decide +kernel
theorem wr_8_8 : (Jvm.Cond.methodLink "java/lang/AbstractStringBuilder" (104 : Nat) ({ cls := "java/lang/AbstractStringBuilder", name := "newCapacity", desc := "(I)I" } : Jvm.MethodName)) ∈ gw := gw_8 8 rfl rfl
theorem wr_8_11 : (Jvm.Cond.code ({ cls := "java/lang/AbstractStringBuilder", name := "newCapacity", desc := "(I)I" } : Jvm.MethodName) prog_21_method_10_code (6 : Nat) (Option.some Jvm.ClassFile.FieldType.int)) ∈ gw := gw_8 11 rfl rfl
theorem wr_8_10 : (Jvm.Cond.instanceMethod ({ cls := "java/lang/AbstractStringBuilder", name := "newCapacity", desc := "(I)I" } : Jvm.MethodName)) ∈ gw := gw_8 10 rfl rfl
theorem wr_s_1 : Cond.selects "java/lang/StringBuilder" ⟨"java/lang/AbstractStringBuilder", "newCapacity", "(I)I"⟩ ⟨"java/lang/AbstractStringBuilder", "newCapacity", "(I)I"⟩ ∈ gw := gw_s _ 1 rfl rfl rfl
theorem dr_cJ5_ensureCapacityInternal_d00df_27 : decode cJ5_ensureCapacityInternal_d00df 27 = .ok (.aload_n 0, 1) := by decide +kernel
theorem dr_cJ5_ensureCapacityInternal_d00df_28 : decode cJ5_ensureCapacityInternal_d00df 28 = .ok (.getfield 22, 3) := by decide +kernel
theorem dr_cJ5_ensureCapacityInternal_d00df_31 : decode cJ5_ensureCapacityInternal_d00df 31 = .ok (.ishl, 1) := by decide +kernel
theorem dr_cJ5_ensureCapacityInternal_d00df_32 : decode cJ5_ensureCapacityInternal_d00df 32 = .ok (.invokestatic 108, 3) := by decide +kernel
theorem wr_8_21 : (Jvm.Cond.methodLink "java/lang/AbstractStringBuilder" (108 : Nat) ({ cls := "java/util/Arrays", name := "copyOf", desc := "([BI)[B" } : Jvm.MethodName)) ∈ gw := gw_8 21 rfl rfl
theorem wr_8_23 : (Jvm.Cond.code ({ cls := "java/util/Arrays", name := "copyOf", desc := "([BI)[B" } : Jvm.MethodName) prog_44_method_121_code (3 : Nat) (Option.some (Jvm.ClassFile.FieldType.array Jvm.ClassFile.FieldType.byte))) ∈ gw := gw_8 23 rfl rfl
theorem wr_8_22 : (Jvm.Cond.static ({ cls := "java/util/Arrays", name := "copyOf", desc := "([BI)[B" } : Jvm.MethodName)) ∈ gw := gw_8 22 rfl rfl
theorem dr_cJ5_ensureCapacityInternal_d00df_35 : decode cJ5_ensureCapacityInternal_d00df 35 = .ok (.putfield 15, 3) := by decide +kernel
abbrev ky_658583_AbstractStringBuilder_length : gKey := (cJ5_length_8abf5, 1, "java/lang/AbstractStringBuilder", (some FieldType.int), [], "length", fun _ _ => True)
def pp_658583_AbstractStringBuilder_length (D : va_G) (I : FieldType → ClassId) (P658574 : List Nat) (F658575 : Nat → va_E) (q658576 : Nat) (q658577 : Nat) (p658578 : Int32) (p658579 : Int32) (f658580 : Nat → Int32) (n658581 : Nat) : Option Value → va_W → Nat → Nat → Prop := fun r w dc ds => r = some (.int p658579) ∧ w = va_pl P658574 F658575 ∧ dc ≤ 0 ∧ ds ≤ 0
set_option maxRecDepth 100000 in
set_option maxHeartbeats 4000000 in
theorem cp_658583_AbstractStringBuilder_length (l : Launch) (hl0 : l.stackTraces = false) (D : va_G) (I : FieldType → ClassId) (P658574 : List Nat) (F658575 : Nat → va_E) (q658576 : Nat) (q658577 : Nat) (p658578 : Int32) (p658579 : Int32) (f658580 : Nat → Int32) (n658581 : Nat) (hmq658576 : q658576 ∈ P658574) (hmq658577 : q658577 ∈ P658574) (heq658576 : F658575 q658576 = .inr (1, [.ref q658577, .int 0, .int p658578, .int p658579])) (heq658577 : F658575 q658577 = .inl (I .byte, n658581, .inl f658580)) (bp658578 : gB p658578 0 1) (bp658579 : gB p658579 0 16777216) (bf658580 : gF f658580 (-128) 127) (x658582 : ((n658581 : Int) ≤ 16777216)) : CtA (gV D I) l yJ5_length_8abf5 cJ5_length_8abf5 1 (some FieldType.int) 0 0 0 0 [.ref q658576] (va_pl P658574 F658575) (pp_658583_AbstractStringBuilder_length D I P658574 F658575 q658576 q658577 p658578 p658579 f658580 n658581) gNA := by
  refine CtA_ofF hl0 (by decide +kernel) (Nat.le_of_ble_eq_true rfl) ?_
  refine G_aload_n 0 dr_cJ5_length_8abf5_0 rfl ?_
  refine Gp_get 3 hmq658576 heq658576 dr_cJ5_length_8abf5_1 (gk_J4 D I) (Nat.le_of_ble_eq_true rfl) wr_7_64 rfl ?_
  exact G_iretA dr_cJ5_length_8abf5_4 rfl (Nat.le_of_ble_eq_true rfl) (Nat.le_of_ble_eq_true rfl) ⟨rfl, rfl, (Nat.le_of_ble_eq_true rfl), (Nat.le_of_ble_eq_true rfl)⟩
abbrev ky_658573_StringBuilder_length : gKey := (cJ4_length_8abf5, 1, "java/lang/StringBuilder", (some FieldType.int), [], "length", fun _ _ => True)
def pp_658573_StringBuilder_length (D : va_G) (I : FieldType → ClassId) (P658564 : List Nat) (F658565 : Nat → va_E) (q658566 : Nat) (q658567 : Nat) (p658568 : Int32) (p658569 : Int32) (f658570 : Nat → Int32) (n658571 : Nat) : Option Value → va_W → Nat → Nat → Prop := fun r w dc ds => r = some (.int p658569) ∧ w = va_pl P658564 F658565 ∧ dc ≤ 0 ∧ ds ≤ 0
set_option maxRecDepth 100000 in
set_option maxHeartbeats 4000000 in
theorem cp_658573_StringBuilder_length (l : Launch) (hl0 : l.stackTraces = false) (D : va_G) (I : FieldType → ClassId) (P658564 : List Nat) (F658565 : Nat → va_E) (q658566 : Nat) (q658567 : Nat) (p658568 : Int32) (p658569 : Int32) (f658570 : Nat → Int32) (n658571 : Nat) (hmq658566 : q658566 ∈ P658564) (hmq658567 : q658567 ∈ P658564) (heq658566 : F658565 q658566 = .inr (1, [.ref q658567, .int 0, .int p658568, .int p658569])) (heq658567 : F658565 q658567 = .inl (I .byte, n658571, .inl f658570)) (bp658568 : gB p658568 0 1) (bp658569 : gB p658569 0 16777216) (bf658570 : gF f658570 (-128) 127) (x658572 : ((n658571 : Int) ≤ 16777216)) : CtA (gV D I) l yJ4_length_8abf5 cJ4_length_8abf5 1 (some FieldType.int) 1 20 0 0 [.ref q658566] (va_pl P658564 F658565) (pp_658573_StringBuilder_length D I P658564 F658565 q658566 q658567 p658568 p658569 f658570 n658571) gNA := by
  refine CtA_ofF hl0 (by decide +kernel) (Nat.le_of_ble_eq_true rfl) ?_
  refine G_aload_n 0 dr_cJ4_length_8abf5_0 rfl ?_
  refine Gw_callSU (As := []) (gV_ok D I) (cp_658583_AbstractStringBuilder_length l hl0 D I P658564 F658565 q658566 q658567 p658568 p658569 f658570 n658571 hmq658566 hmq658567 heq658566 heq658567 bp658568 bp658569 bf658570 (by have qa0 : Int32.toInt 0 = 0 := (by decide); omega)) dr_cJ4_length_8abf5_1 ⟨wr_8_90, wr_1_19, wr_8_91, by decide, rfl, (Nat.le_of_ble_eq_true rfl), (Nat.le_of_ble_eq_true rfl)⟩ wr_8_85 wr_8_86 wr_7_73 wr_7_44 (by decide) hmq658566 heq658566 rfl (show 0 + 0 ≤ 0 by first | omega | decide) (show 0 + 0 ≤ 0 by first | omega | decide) (Nat.le_of_ble_eq_true rfl) (fun r658587 w658588 dc658584 ds658585 hp658586 => ?_)
  obtain ⟨rfl, rfl, hdc, hds⟩ := hp658586
  change G _ _ _ _ _ _ _ (.int p658569 :: _) _ _ _
  refine G_widen (cs' := 0) (sl' := 0) (by omega) (by omega) ?_
  exact G_iretA dr_cJ4_length_8abf5_4 rfl (Nat.le_of_ble_eq_true rfl) (Nat.le_of_ble_eq_true rfl) ⟨rfl, rfl, (Nat.le_of_ble_eq_true rfl), (Nat.le_of_ble_eq_true rfl)⟩
/- tr_RPreconditions_checkIndex2:  -/
def tr_RPreconditions_checkIndex2 (a0 : Int32) (a1 : Int32) : Prop := ∀ R : Prop,
  (a0.toInt < a1.toInt → R) →
  R
abbrev ky_658637_Preconditions_checkIndex : gKey := (cJ3_checkIndex_8e157, 3, "jdk/internal/util/Preconditions", (some FieldType.int), [], "checkIndex", fun _ _ => True)
def pp_658637_Preconditions_checkIndex (D : va_G) (I : FieldType → ClassId) (P658631 : List Nat) (F658632 : Nat → va_E) (p658633 : Int32) (p658634 : Int32) (qo658635 : Nat) : Option Value → va_W → Nat → Nat → Prop := fun r w dc ds => r = some (.int p658633) ∧ w = va_pl P658631 F658632 ∧ dc ≤ 0 ∧ ds ≤ 0 ∧ tr_RPreconditions_checkIndex2 p658633 p658634
set_option maxRecDepth 100000 in
set_option maxHeartbeats 4000000 in
theorem cp_658637_Preconditions_checkIndex (l : Launch) (hl0 : l.stackTraces = false) (D : va_G) (I : FieldType → ClassId) (P658631 : List Nat) (F658632 : Nat → va_E) (p658633 : Int32) (p658634 : Int32) (qo658635 : Nat) (bp658633 : gB p658633 0 16777216) (bp658634 : gB p658634 0 16777216) (x658636 : p658633.toInt < p658634.toInt) : CtA (gV D I) l yJ3_checkIndex_8e157 cJ3_checkIndex_8e157 3 (some FieldType.int) 0 0 0 0 [.int p658633, .int p658634, .ref qo658635] (va_pl P658631 F658632) (pp_658637_Preconditions_checkIndex D I P658631 F658632 p658633 p658634 qo658635) gNA := by
  refine CtA_ofF hl0 (by decide +kernel) (Nat.le_of_ble_eq_true rfl) ?_
  refine G_iload_n 0 dr_cJ3_checkIndex_8e157_0 rfl ?_
  refine G_if_lt 9 dr_cJ3_checkIndex_8e157_1 (by decide +kernel) (fun hc => absurd (show False by have := gj_lt hc (show Int32.toInt 0 = 0 by decide); omega) not_false) (fun _ => ?_)
  refine G_iload_n 0 dr_cJ3_checkIndex_8e157_4 rfl ?_
  refine G_iload_n 1 dr_cJ3_checkIndex_8e157_5 rfl ?_
  refine G_icmp_lt 16 dr_cJ3_checkIndex_8e157_6 (by decide +kernel) (fun hc658638 => ?_) (fun hc658638 => ?_)
  · have r658639 : p658633.toInt < p658634.toInt := gC_lt hc658638
    have bp658633' : gB p658633 0 16777215 := ⟨by omega, by omega⟩
    have bp658634' : gB p658634 1 16777216 := ⟨by omega, by omega⟩
    refine G_iload_n 0 dr_cJ3_checkIndex_8e157_16 rfl ?_
    exact G_iretA dr_cJ3_checkIndex_8e157_17 rfl (Nat.le_of_ble_eq_true rfl) (Nat.le_of_ble_eq_true rfl) ⟨rfl, rfl, (Nat.le_of_ble_eq_true rfl), (Nat.le_of_ble_eq_true rfl), (fun R c1 => c1 r658639)⟩
  · have r658640 : p658634.toInt ≤ p658633.toInt := gC_nlt hc658638
    exact absurd (show False by omega) not_false
/- tr_RString_checkIndex:  -/
def tr_RString_checkIndex (a0 : Int32) (a1 : Int32) : Prop := ∀ R : Prop,
  (tr_RPreconditions_checkIndex a0 a1 → R) →
  (tr_RPreconditions_checkIndex2 a0 a1 → R) →
  R
abbrev ky_658623_String_checkIndex : gKey := (cJ0_checkIndex_df160, 2, "java/lang/String", none, [], "checkIndex", fun _ _ => True)
def pp_658623_String_checkIndex (D : va_G) (I : FieldType → ClassId) (P658618 : List Nat) (F658619 : Nat → va_E) (p658620 : Int32) (p658621 : Int32) : Option Value → va_W → Nat → Nat → Prop := fun r w dc ds => r = none ∧ w = va_pl P658618 F658619 ∧ dc ≤ 0 ∧ ds ≤ 0 ∧ tr_RString_checkIndex p658620 p658621
set_option maxRecDepth 100000 in
set_option maxHeartbeats 4000000 in
theorem cp_658623_String_checkIndex (l : Launch) (hl0 : l.stackTraces = false) (D : va_G) (I : FieldType → ClassId) (P658618 : List Nat) (F658619 : Nat → va_E) (p658620 : Int32) (p658621 : Int32) (bp658620 : gB p658620 0 16777216) (bp658621 : gB p658621 0 16777216) (x658622 : p658620.toInt < p658621.toInt) : CtA (gV D I) l yJ0_checkIndex_df160 cJ0_checkIndex_df160 2 none 1 22 0 0 [.int p658620, .int p658621] (va_pl P658618 F658619) (pp_658623_String_checkIndex D I P658618 F658619 p658620 p658621) gNA := by
  refine CtA_ofF hl0 (by decide +kernel) (Nat.le_of_ble_eq_true rfl) ?_
  refine G_iload_n 0 dr_cJ0_checkIndex_df160_0 rfl ?_
  refine G_iload_n 1 dr_cJ0_checkIndex_df160_1 rfl ?_
  refine G_gets dr_cJ0_checkIndex_df160_2 wr_3_81 gz_pf (fun x hx => ?_)
  rcases hx with rfl | ⟨t658624, rfl⟩
  · refine Gw_callS (As := [.int p658620, .int p658621, .null]) (gV_ok D I) (cp_34_Preconditions_checkIndex l hl0 D I P658618 F658619 p658620 p658621 bp658620 bp658621 (by omega)) dr_cJ0_checkIndex_df160_5 ⟨wr_3_83, wr_1_29, wr_3_85, by decide, rfl, (Nat.le_of_ble_eq_true rfl), (Nat.le_of_ble_eq_true rfl)⟩ wr_3_84 (show 0 + 0 ≤ 0 by first | omega | decide) (show 0 + 0 ≤ 0 by first | omega | decide) (Nat.le_of_ble_eq_true rfl) (fun r658628 w658629 dc658625 ds658626 hp658627 => ?_) (fun _ _ _ _ _ z => z.elim)
    obtain ⟨rfl, rfl, hdc, hds, ht658630⟩ := hp658627
    change G _ _ _ _ _ _ _ (.int p658620 :: _) _ _ _
    refine G_widen (cs' := 0) (sl' := 0) (by omega) (by omega) ?_
    refine G_pop dr_cJ0_checkIndex_df160_8 rfl ?_
    exact G_vretA dr_cJ0_checkIndex_df160_9 rfl (Nat.le_of_ble_eq_true rfl) (Nat.le_of_ble_eq_true rfl) ⟨rfl, rfl, (Nat.le_of_ble_eq_true rfl), (Nat.le_of_ble_eq_true rfl), (fun R c1 c2 => c1 ht658630)⟩
  · refine Gw_callS (As := [.int p658620, .int p658621, .ref t658624]) (gV_ok D I) (cp_658637_Preconditions_checkIndex l hl0 D I P658618 F658619 p658620 p658621 t658624 bp658620 bp658621 (by omega)) dr_cJ0_checkIndex_df160_5 ⟨wr_3_83, wr_1_29, wr_3_85, by decide, rfl, (Nat.le_of_ble_eq_true rfl), (Nat.le_of_ble_eq_true rfl)⟩ wr_3_84 (show 0 + 0 ≤ 0 by first | omega | decide) (show 0 + 0 ≤ 0 by first | omega | decide) (Nat.le_of_ble_eq_true rfl) (fun r658644 w658645 dc658641 ds658642 hp658643 => ?_) (fun _ _ _ _ _ z => z.elim)
    obtain ⟨rfl, rfl, hdc, hds, ht658646⟩ := hp658643
    change G _ _ _ _ _ _ _ (.int p658620 :: _) _ _ _
    refine G_widen (cs' := 0) (sl' := 0) (by omega) (by omega) ?_
    refine G_pop dr_cJ0_checkIndex_df160_8 rfl ?_
    exact G_vretA dr_cJ0_checkIndex_df160_9 rfl (Nat.le_of_ble_eq_true rfl) (Nat.le_of_ble_eq_true rfl) ⟨rfl, rfl, (Nat.le_of_ble_eq_true rfl), (Nat.le_of_ble_eq_true rfl), (fun R c1 c2 => c2 ht658646)⟩
/- tr_RAbstractStringBuilder_charAt: result -/
def tr_RAbstractStringBuilder_charAt (a1 : Int32) (a0_count : Int32) (a0_value_v : Nat → Int32) (a0_value_n : Nat) (o1 : Int32) : Prop := ∀ R : (Int32) → Prop,
  (∀ (x1 : Int32) (x2 : Int32) (x3 : Int32) (x4 : Int32) (x5 : Int32) (x6 : Int32), x1.toInt = (a0_value_n : Nat) → x2.toInt = x1.toInt / 1 → (a0_count.toInt ≥ x3.toInt ∧ x2.toInt ≥ x3.toInt ∧ (x3.toInt = a0_count.toInt ∨ x3.toInt = x2.toInt)) → tr_RString_checkIndex a1 x3 → x4 = a0_value_v a1.toNatClampNeg → gB x4 (-128) 127 → x5 = x4 &&& (255 : Int32) → x6 = (x5.toUInt32 % 65536).toInt32 → R x6) →
  R o1
abbrev ky_658614_AbstractStringBuilder_charAt : gKey := (cJ5_charAt_5068e, 5, "java/lang/AbstractStringBuilder", (some FieldType.char), [], "charAt", fun _ _ => True)
def pp_658614_AbstractStringBuilder_charAt (D : va_G) (I : FieldType → ClassId) (P658602 : List Nat) (F658603 : Nat → va_E) (q658604 : Nat) (q658605 : Nat) (p658606 : Int32) (p658607 : Int32) (p658608 : Int32) (f658609 : Nat → Int32) (n658610 : Nat) : Option Value → va_W → Nat → Nat → Prop := fun r w dc ds => ∃ (o658656 : Int32), r = some (.int o658656) ∧ w = va_pl P658602 F658603 ∧ dc ≤ 0 ∧ ds ≤ 0 ∧ gB o658656 0 65535 ∧ tr_RAbstractStringBuilder_charAt p658606 p658608 f658609 n658610 o658656
set_option maxRecDepth 100000 in
set_option maxHeartbeats 4000000 in
theorem cp_658614_AbstractStringBuilder_charAt (l : Launch) (hl0 : l.stackTraces = false) (D : va_G) (I : FieldType → ClassId) (P658602 : List Nat) (F658603 : Nat → va_E) (q658604 : Nat) (q658605 : Nat) (p658606 : Int32) (p658607 : Int32) (p658608 : Int32) (f658609 : Nat → Int32) (n658610 : Nat) (hmq658604 : q658604 ∈ P658602) (hmq658605 : q658605 ∈ P658602) (heq658604 : F658603 q658604 = .inr (1, [.ref q658605, .int 0, .int p658607, .int p658608])) (heq658605 : F658603 q658605 = .inl (I .byte, n658610, .inl f658609)) (bp658606 : gB p658606 0 16777215) (bp658607 : gB p658607 0 1) (bp658608 : gB p658608 0 16777216) (bf658609 : gF f658609 (-128) 127) (x658611 : p658606.toInt < p658608.toInt) (x658612 : p658608.toInt ≤ (n658610 : Int)) (x658613 : ((n658610 : Int) ≤ 16777216)) : CtA (gV D I) l yJ5_charAt_5068e cJ5_charAt_5068e 5 (some FieldType.char) 2 43 0 0 [.ref q658604, .int p658606] (va_pl P658602 F658603) (pp_658614_AbstractStringBuilder_charAt D I P658602 F658603 q658604 q658605 p658606 p658607 p658608 f658609 n658610) gNA := by
  refine CtA_ofF hl0 (by decide +kernel) (Nat.le_of_ble_eq_true rfl) ?_
  refine G_aload_n 0 dr_cJ5_charAt_5068e_0 rfl ?_
  refine Gp_get 1 hmq658604 heq658604 dr_cJ5_charAt_5068e_1 (gk_J4 D I) (Nat.le_of_ble_eq_true rfl) wr_7_61 rfl ?_
  refine G_istore_n (L' := [(2, .int 0), (0, .ref q658604), (1, .int p658606)]) dr_cJ5_charAt_5068e_4 (Nat.le_of_ble_eq_true rfl) rfl ?_
  refine G_aload_n 1 dr_cJ5_charAt_5068e_5 rfl ?_
  refine Gp_get 0 hmq658604 heq658604 dr_cJ5_charAt_5068e_6 (gk_J4 D I) (Nat.le_of_ble_eq_true rfl) wr_7_60 rfl ?_
  refine G_astore_n (L' := [(3, .ref q658605), (2, .int 0), (0, .ref q658604), (1, .int p658606)]) dr_cJ5_charAt_5068e_9 (Nat.le_of_ble_eq_true rfl) rfl ?_
  refine G_aload_n 2 dr_cJ5_charAt_5068e_10 rfl ?_
  refine Gp_get 3 hmq658604 heq658604 dr_cJ5_charAt_5068e_11 (gk_J4 D I) (Nat.le_of_ble_eq_true rfl) wr_7_64 rfl ?_
  refine G_aload_n 0 dr_cJ5_charAt_5068e_14 rfl ?_
  refine Gp_alen (Int32.ofNat n658610) 1 hmq658605 heq658605 dr_cJ5_charAt_5068e_15 rfl rfl (G_nam fun z658615 hz658615 => ?_)
  have ez658615 : z658615.toInt = (n658610 : Nat) := gI_ofM hz658615 (by omega)
  have bz658615 : gB z658615 0 16777216 := ⟨by omega, by omega⟩
  refine G_iload_n 1 dr_cJ5_charAt_5068e_16 rfl ?_
  refine G_ishr dr_cJ5_charAt_5068e_17 (G_nam fun z658616 hz658616 => ?_)
  have ez658616 : z658616.toInt = z658615.toInt / 1 := gI_shr (k := 0) hz658616 (by decide)
  have bz658616 : gB z658616 0 16777216 := ⟨by omega, by omega⟩
  refine G_mmin dr_cJ5_charAt_5068e_18 wr_11_216 wr_3_227 wr_1_6 wr_3_228 (Nat.le_of_ble_eq_true rfl) (Nat.le_of_ble_eq_true rfl) (show 0 ≤ 0 by first | omega | decide) (show 0 ≤ 0 by first | omega | decide) (G_nam fun z658617 hz658617 => ?_)
  have ez658617 : p658608.toInt ≥ z658617.toInt ∧ z658616.toInt ≥ z658617.toInt ∧ (z658617.toInt = p658608.toInt ∨ z658617.toInt = z658616.toInt) := by have := gI_min hz658617; omega
  have bz658617 : gB z658617 0 16777216 := ⟨by omega, by omega⟩
  refine G_istore (L' := [(4, .int z658617), (3, .ref q658605), (2, .int 0), (0, .ref q658604), (1, .int p658606)]) dr_cJ5_charAt_5068e_21 (Nat.le_of_ble_eq_true rfl) rfl ?_
  refine G_iload_n 4 dr_cJ5_charAt_5068e_23 rfl ?_
  refine G_iload 0 dr_cJ5_charAt_5068e_24 rfl ?_
  refine Gw_callS (As := [.int p658606, .int z658617]) (gV_ok D I) (cp_658623_String_checkIndex l hl0 D I P658602 F658603 p658606 z658617 (gB_w bp658606 (by decide) (by decide)) bz658617 (by have qa0 : Int32.toInt 0 = 0 := (by decide); omega)) dr_cJ5_charAt_5068e_26 ⟨wr_11_217, wr_1_21, wr_3_80, by decide, rfl, (Nat.le_of_ble_eq_true rfl), (Nat.le_of_ble_eq_true rfl)⟩ wr_3_79 (show 0 + 0 ≤ 0 by first | omega | decide) (show 0 + 0 ≤ 0 by first | omega | decide) (Nat.le_of_ble_eq_true rfl) (fun r658650 w658651 dc658647 ds658648 hp658649 => ?_) (fun _ _ _ _ _ z => z.elim)
  obtain ⟨rfl, rfl, hdc, hds, ht658652⟩ := hp658649
  change G _ _ _ _ _ _ _ _ _ _ _
  refine G_widen (cs' := 0) (sl' := 0) (by omega) (by omega) ?_
  refine G_iload_n 2 dr_cJ5_charAt_5068e_29 rfl ?_
  refine G_if_ne 42 dr_cJ5_charAt_5068e_30 (by decide +kernel) (fun hc => absurd hc (by decide)) (fun _ => ?_)
  refine G_aload_n 1 dr_cJ5_charAt_5068e_33 rfl ?_
  refine G_iload_n 4 dr_cJ5_charAt_5068e_34 rfl ?_
  refine Gp_bald 1 hmq658605 heq658605 dr_cJ5_charAt_5068e_35 rfl (gB_inr (by omega) (by omega)) (G_nam fun z658653 hz658653 => ?_)
  have bz658653 : gB z658653 (-128) 127 := by rw [hz658653]; exact bf658609 _
  refine G_sipush 255 dr_cJ5_charAt_5068e_36 (by decide +kernel) ?_
  refine G_iand dr_cJ5_charAt_5068e_39 (G_nam fun z658654 hz658654 => ?_)
  have bz658654 : gB z658654 0 255 := gB_and hz658654 (gBl (show Int32.toInt 255 = 255 by decide)) (by decide)
  refine G_i2c dr_cJ5_charAt_5068e_40 (G_nam fun z658655 hz658655 => ?_)
  have bz658655 : gB z658655 0 65535 := gB_i2c hz658655
  exact G_zretA FieldType.char dr_cJ5_charAt_5068e_41 rfl (gN_char bz658655) (Nat.le_of_ble_eq_true rfl) (Nat.le_of_ble_eq_true rfl) ⟨z658655, rfl, rfl, (Nat.le_of_ble_eq_true rfl), (Nat.le_of_ble_eq_true rfl), bz658655, (fun R c1 => c1 z658615 z658616 z658617 z658653 z658654 z658655 ez658615 ez658616 ez658617 ht658652 hz658653 bz658653 hz658654 hz658655)⟩
/- tr_RStringBuilder_charAt: result -/
def tr_RStringBuilder_charAt (a1 : Int32) (a0_count : Int32) (a0_value_v : Nat → Int32) (a0_value_n : Nat) (o1 : Int32) : Prop := ∀ R : (Int32) → Prop,
  (∀ (x1 : Int32), gB x1 0 65535 → tr_RAbstractStringBuilder_charAt a1 a0_count a0_value_v a0_value_n x1 → R x1) →
  R o1
abbrev ky_658601_StringBuilder_charAt : gKey := (cJ4_charAt_5068e, 2, "java/lang/StringBuilder", (some FieldType.char), [], "charAt", fun _ _ => True)
def pp_658601_StringBuilder_charAt (D : va_G) (I : FieldType → ClassId) (P658589 : List Nat) (F658590 : Nat → va_E) (q658591 : Nat) (q658592 : Nat) (p658593 : Int32) (p658594 : Int32) (p658595 : Int32) (f658596 : Nat → Int32) (n658597 : Nat) : Option Value → va_W → Nat → Nat → Prop := fun r w dc ds => ∃ (o658664 : Int32), r = some (.int o658664) ∧ w = va_pl P658589 F658590 ∧ dc ≤ 0 ∧ ds ≤ 0 ∧ gB o658664 0 65535 ∧ tr_RStringBuilder_charAt p658593 p658595 f658596 n658597 o658664
set_option maxRecDepth 100000 in
set_option maxHeartbeats 4000000 in
theorem cp_658601_StringBuilder_charAt (l : Launch) (hl0 : l.stackTraces = false) (D : va_G) (I : FieldType → ClassId) (P658589 : List Nat) (F658590 : Nat → va_E) (q658591 : Nat) (q658592 : Nat) (p658593 : Int32) (p658594 : Int32) (p658595 : Int32) (f658596 : Nat → Int32) (n658597 : Nat) (hmq658591 : q658591 ∈ P658589) (hmq658592 : q658592 ∈ P658589) (heq658591 : F658590 q658591 = .inr (1, [.ref q658592, .int 0, .int p658594, .int p658595])) (heq658592 : F658590 q658592 = .inl (I .byte, n658597, .inl f658596)) (bp658593 : gB p658593 0 16777215) (bp658594 : gB p658594 0 1) (bp658595 : gB p658595 0 16777216) (bf658596 : gF f658596 (-128) 127) (x658598 : p658593.toInt < p658595.toInt) (x658599 : p658595.toInt ≤ (n658597 : Int)) (x658600 : ((n658597 : Int) ≤ 16777216)) : CtA (gV D I) l yJ4_charAt_5068e cJ4_charAt_5068e 2 (some FieldType.char) 3 67 0 0 [.ref q658591, .int p658593] (va_pl P658589 F658590) (pp_658601_StringBuilder_charAt D I P658589 F658590 q658591 q658592 p658593 p658594 p658595 f658596 n658597) gNA := by
  refine CtA_ofF hl0 (by decide +kernel) (Nat.le_of_ble_eq_true rfl) ?_
  refine G_aload_n 0 dr_cJ4_charAt_5068e_0 rfl ?_
  refine G_iload_n 1 dr_cJ4_charAt_5068e_1 rfl ?_
  refine Gw_callSU (As := [.int p658593]) (gV_ok D I) (cp_658614_AbstractStringBuilder_charAt l hl0 D I P658589 F658590 q658591 q658592 p658593 p658594 p658595 f658596 n658597 hmq658591 hmq658592 heq658591 heq658592 bp658593 bp658594 bp658595 bf658596 (by have qa0 : Int32.toInt 0 = 0 := (by decide); omega) (by have qa0 : Int32.toInt 0 = 0 := (by decide); omega) (by have qa0 : Int32.toInt 0 = 0 := (by decide); omega)) dr_cJ4_charAt_5068e_2 ⟨wr_11_213, wr_1_19, wr_11_215, by decide, rfl, (Nat.le_of_ble_eq_true rfl), (Nat.le_of_ble_eq_true rfl)⟩ wr_11_214 wr_11_235 wr_7_73 wr_7_44 (by decide) hmq658591 heq658591 rfl (show 0 + 0 ≤ 0 by first | omega | decide) (show 0 + 0 ≤ 0 by first | omega | decide) (Nat.le_of_ble_eq_true rfl) (fun r658660 w658661 dc658657 ds658658 hp658659 => ?_)
  obtain ⟨o658662, rfl, rfl, hdc, hds, bo658662, ht658663⟩ := hp658659
  change G _ _ _ _ _ _ _ (.int o658662 :: _) _ _ _
  refine G_widen (cs' := 0) (sl' := 0) (by omega) (by omega) ?_
  exact G_zretA FieldType.char dr_cJ4_charAt_5068e_5 rfl (gN_char bo658662) (Nat.le_of_ble_eq_true rfl) (Nat.le_of_ble_eq_true rfl) ⟨o658662, rfl, rfl, (Nat.le_of_ble_eq_true rfl), (Nat.le_of_ble_eq_true rfl), bo658662, (fun R c1 => c1 o658662 bo658662 ht658663)⟩
/- tr_RAbstractStringBuilder_ensureCapacityInternal:  -/
def tr_RAbstractStringBuilder_ensureCapacityInternal (a1 : Int32) (a0_value_n : Nat) : Prop := ∀ R : Prop,
  (∀ (x1 : Int32) (x2 : Int32) (x3 : Int32), x1.toInt = (a0_value_n : Nat) → x2.toInt = x1.toInt / 1 → x3.toInt = a1.toInt - x2.toInt → x3.toInt ≤ 0 → R) →
  R
abbrev ky_658701_AbstractStringBuilder_ensureCapacityInternal : gKey := (cJ5_ensureCapacityInternal_d00df, 3, "java/lang/AbstractStringBuilder", none, [], "ensureCapacityInternal", fun _ _ => True)
def pp_658701_AbstractStringBuilder_ensureCapacityInternal (D : va_G) (I : FieldType → ClassId) (P658690 : List Nat) (F658691 : Nat → va_E) (q658692 : Nat) (q658693 : Nat) (p658694 : Int32) (p658695 : Int32) (p658696 : Int32) (f658697 : Nat → Int32) (n658698 : Nat) : Option Value → va_W → Nat → Nat → Prop := fun r w dc ds => r = none ∧ w = va_pl P658690 F658691 ∧ dc ≤ 0 ∧ ds ≤ 0 ∧ tr_RAbstractStringBuilder_ensureCapacityInternal p658694 n658698
set_option maxRecDepth 100000 in
set_option maxHeartbeats 4000000 in
theorem cp_658701_AbstractStringBuilder_ensureCapacityInternal (l : Launch) (hl0 : l.stackTraces = false) (D : va_G) (I : FieldType → ClassId) (P658690 : List Nat) (F658691 : Nat → va_E) (q658692 : Nat) (q658693 : Nat) (p658694 : Int32) (p658695 : Int32) (p658696 : Int32) (f658697 : Nat → Int32) (n658698 : Nat) (hmq658692 : q658692 ∈ P658690) (hmq658693 : q658693 ∈ P658690) (heq658692 : F658691 q658692 = .inr (1, [.ref q658693, .int 0, .int p658695, .int p658696])) (heq658693 : F658691 q658693 = .inl (I .byte, n658698, .inl f658697)) (bp658694 : gB p658694 0 16777216) (bp658695 : gB p658695 0 1) (bp658696 : gB p658696 0 16777216) (bf658697 : gF f658697 (-128) 127) (x658699 : p658694.toInt ≤ (n658698 : Int)) (x658700 : ((n658698 : Int) ≤ 16777216)) : CtA (gV D I) l yJ5_ensureCapacityInternal_d00df cJ5_ensureCapacityInternal_d00df 3 none 0 0 0 0 [.ref q658692, .int p658694] (va_pl P658690 F658691) (pp_658701_AbstractStringBuilder_ensureCapacityInternal D I P658690 F658691 q658692 q658693 p658694 p658695 p658696 f658697 n658698) gNA := by
  refine CtA_ofF hl0 (by decide +kernel) (Nat.le_of_ble_eq_true rfl) ?_
  refine G_aload_n 0 dr_cJ5_ensureCapacityInternal_d00df_0 rfl ?_
  refine Gp_get 0 hmq658692 heq658692 dr_cJ5_ensureCapacityInternal_d00df_1 (gk_J4 D I) (Nat.le_of_ble_eq_true rfl) wr_7_60 rfl ?_
  refine Gp_alen (Int32.ofNat n658698) 1 hmq658693 heq658693 dr_cJ5_ensureCapacityInternal_d00df_4 rfl rfl (G_nam fun z658702 hz658702 => ?_)
  have ez658702 : z658702.toInt = (n658698 : Nat) := gI_ofM hz658702 (by omega)
  have bz658702 : gB z658702 0 16777216 := ⟨by omega, by omega⟩
  refine G_aload_n 0 dr_cJ5_ensureCapacityInternal_d00df_5 rfl ?_
  refine Gp_get 1 hmq658692 heq658692 dr_cJ5_ensureCapacityInternal_d00df_6 (gk_J4 D I) (Nat.le_of_ble_eq_true rfl) wr_7_61 rfl ?_
  refine G_ishr dr_cJ5_ensureCapacityInternal_d00df_9 (G_nam fun z658703 hz658703 => ?_)
  have ez658703 : z658703.toInt = z658702.toInt / 1 := gI_shr (k := 0) hz658703 (by decide)
  have bz658703 : gB z658703 0 16777216 := ⟨by omega, by omega⟩
  refine G_istore_n (L' := [(2, .int z658703), (0, .ref q658692), (1, .int p658694)]) dr_cJ5_ensureCapacityInternal_d00df_10 (Nat.le_of_ble_eq_true rfl) rfl ?_
  refine G_iload_n 2 dr_cJ5_ensureCapacityInternal_d00df_11 rfl ?_
  refine G_iload_n 0 dr_cJ5_ensureCapacityInternal_d00df_12 rfl ?_
  refine G_isub dr_cJ5_ensureCapacityInternal_d00df_13 (G_nam fun z658704 hz658704 => ?_)
  have ez658704 : z658704.toInt = p658694.toInt - z658703.toInt := by rw [gI_sub hz658704 bp658694 bz658703 (by decide) (by decide)]
  have bz658704 : gB z658704 (-16777216) 16777216 := gB_sub (gI_sub hz658704 bp658694 bz658703 (by decide) (by decide)) bp658694 bz658703 (by decide) (by decide)
  refine G_if_le 38 dr_cJ5_ensureCapacityInternal_d00df_14 (by decide +kernel) (fun hc658705 => ?_) (fun hc => absurd (show False by have := gj_nle hc (show Int32.toInt 0 = 0 by decide); omega) not_false)
  have r658707 : z658704.toInt ≤ 0 := gj_le hc658705 (show Int32.toInt 0 = 0 by decide)
  have bz658704' : gB z658704 (-16777216) 0 := ⟨by omega, by omega⟩
  exact G_vretA dr_cJ5_ensureCapacityInternal_d00df_38 rfl (Nat.le_of_ble_eq_true rfl) (Nat.le_of_ble_eq_true rfl) ⟨rfl, rfl, (Nat.le_of_ble_eq_true rfl), (Nat.le_of_ble_eq_true rfl), (fun R c1 => c1 z658702 z658703 z658704 ez658702 ez658703 ez658704 r658707)⟩
abbrev ky_658723_AbstractStringBuilder_isLatin1 : gKey := (cJ5_isLatin1_aae02, 1, "java/lang/AbstractStringBuilder", (some FieldType.boolean), [], "isLatin1", fun _ _ => True)
def pp_658723_AbstractStringBuilder_isLatin1 (D : va_G) (I : FieldType → ClassId) (P658714 : List Nat) (F658715 : Nat → va_E) (q658716 : Nat) (q658717 : Nat) (p658718 : Int32) (p658719 : Int32) (f658720 : Nat → Int32) (n658721 : Nat) : Option Value → va_W → Nat → Nat → Prop := fun r w dc ds => r = some (.int 1) ∧ w = va_pl P658714 F658715 ∧ dc ≤ 0 ∧ ds ≤ 0
set_option maxRecDepth 100000 in
set_option maxHeartbeats 4000000 in
theorem cp_658723_AbstractStringBuilder_isLatin1 (l : Launch) (hl0 : l.stackTraces = false) (D : va_G) (I : FieldType → ClassId) (P658714 : List Nat) (F658715 : Nat → va_E) (q658716 : Nat) (q658717 : Nat) (p658718 : Int32) (p658719 : Int32) (f658720 : Nat → Int32) (n658721 : Nat) (hmq658716 : q658716 ∈ P658714) (hmq658717 : q658717 ∈ P658714) (heq658716 : F658715 q658716 = .inr (1, [.ref q658717, .int 0, .int p658718, .int p658719])) (heq658717 : F658715 q658717 = .inl (I .byte, n658721, .inl f658720)) (bp658718 : gB p658718 0 1) (bp658719 : gB p658719 0 16777216) (bf658720 : gF f658720 (-128) 127) (x658722 : ((n658721 : Int) ≤ 16777216)) : CtA (gV D I) l yJ5_isLatin1_aae02 cJ5_isLatin1_aae02 1 (some FieldType.boolean) 0 0 0 0 [.ref q658716] (va_pl P658714 F658715) (pp_658723_AbstractStringBuilder_isLatin1 D I P658714 F658715 q658716 q658717 p658718 p658719 f658720 n658721) gNA := by
  refine CtA_ofF hl0 (by decide +kernel) (Nat.le_of_ble_eq_true rfl) ?_
  refine G_gets dr_cJ5_isLatin1_aae02_0 wr_7_52 gz_cs (fun x hx => ?_)
  subst hx
  refine G_if_eq 17 dr_cJ5_isLatin1_aae02_3 (by decide +kernel) (fun hc => absurd hc (by decide)) (fun _ => ?_)
  refine G_aload_n 0 dr_cJ5_isLatin1_aae02_6 rfl ?_
  refine Gp_get 1 hmq658716 heq658716 dr_cJ5_isLatin1_aae02_7 (gk_J4 D I) (Nat.le_of_ble_eq_true rfl) wr_7_61 rfl ?_
  refine G_if_ne 17 dr_cJ5_isLatin1_aae02_10 (by decide +kernel) (fun hc => absurd hc (by decide)) (fun _ => ?_)
  refine G_iconst 1 dr_cJ5_isLatin1_aae02_13 (by decide +kernel) ?_
  refine G_goto 18 dr_cJ5_isLatin1_aae02_14 (by decide +kernel) ?_
  exact G_zretA FieldType.boolean dr_cJ5_isLatin1_aae02_18 rfl rfl (Nat.le_of_ble_eq_true rfl) (Nat.le_of_ble_eq_true rfl) ⟨rfl, rfl, (Nat.le_of_ble_eq_true rfl), (Nat.le_of_ble_eq_true rfl)⟩
/- tr_RStringLatin1_canEncode: result -/
def tr_RStringLatin1_canEncode (a0 : Int32) (o1 : Int32) : Prop := ∀ R : (Int32) → Prop,
  (255 < a0.toInt → R (0 : Int32)) →
  (a0.toInt ≤ 255 → R (1 : Int32)) →
  R o1
abbrev ky_658732_StringLatin1_canEncode : gKey := (cJ1_canEncode_fc78d, 1, "java/lang/StringLatin1", (some FieldType.boolean), [], "canEncode", fun _ _ => True)
def pp_658732_StringLatin1_canEncode (D : va_G) (I : FieldType → ClassId) (P658729 : List Nat) (F658730 : Nat → va_E) (p658731 : Int32) : Option Value → va_W → Nat → Nat → Prop := fun r w dc ds => (r = some (.int 0) ∧ w = va_pl P658729 F658730 ∧ dc ≤ 0 ∧ ds ≤ 0 ∧ 255 < p658731.toInt ∧ tr_RStringLatin1_canEncode p658731 (0 : Int32)) ∨ (r = some (.int 1) ∧ w = va_pl P658729 F658730 ∧ dc ≤ 0 ∧ ds ≤ 0 ∧ p658731.toInt ≤ 255 ∧ tr_RStringLatin1_canEncode p658731 (1 : Int32))
set_option maxRecDepth 100000 in
set_option maxHeartbeats 4000000 in
theorem cp_658732_StringLatin1_canEncode (l : Launch) (hl0 : l.stackTraces = false) (D : va_G) (I : FieldType → ClassId) (P658729 : List Nat) (F658730 : Nat → va_E) (p658731 : Int32) (bp658731 : gB p658731 0 65535) : CtA (gV D I) l yJ1_canEncode_fc78d cJ1_canEncode_fc78d 1 (some FieldType.boolean) 0 0 0 0 [.int p658731] (va_pl P658729 F658730) (pp_658732_StringLatin1_canEncode D I P658729 F658730 p658731) gNA := by
  refine CtA_ofF hl0 (by decide +kernel) (Nat.le_of_ble_eq_true rfl) ?_
  refine G_iload_n 0 dr_cJ1_canEncode_fc78d_0 rfl ?_
  refine G_sipush 255 dr_cJ1_canEncode_fc78d_1 (by decide +kernel) ?_
  refine G_icmp_gt 11 dr_cJ1_canEncode_fc78d_4 (by decide +kernel) (fun hc658733 => ?_) (fun hc658733 => ?_)
  · have r658734 : 255 < p658731.toInt := gj_ltL hc658733 (show Int32.toInt 255 = 255 by decide)
    have bp658731' : gB p658731 256 65535 := ⟨by omega, by omega⟩
    refine G_iconst 0 dr_cJ1_canEncode_fc78d_11 (by decide +kernel) ?_
    exact G_zretA FieldType.boolean dr_cJ1_canEncode_fc78d_12 rfl rfl (Nat.le_of_ble_eq_true rfl) (Nat.le_of_ble_eq_true rfl) (Or.inl ⟨rfl, rfl, (Nat.le_of_ble_eq_true rfl), (Nat.le_of_ble_eq_true rfl), r658734, (fun R c1 c2 => c1 r658734)⟩)
  · have r658735 : p658731.toInt ≤ 255 := gj_nltL hc658733 (show Int32.toInt 255 = 255 by decide)
    have bp658731' : gB p658731 0 255 := ⟨by omega, by omega⟩
    refine G_iconst 1 dr_cJ1_canEncode_fc78d_7 (by decide +kernel) ?_
    refine G_goto 12 dr_cJ1_canEncode_fc78d_8 (by decide +kernel) ?_
    exact G_zretA FieldType.boolean dr_cJ1_canEncode_fc78d_12 rfl rfl (Nat.le_of_ble_eq_true rfl) (Nat.le_of_ble_eq_true rfl) (Or.inr (⟨rfl, rfl, (Nat.le_of_ble_eq_true rfl), (Nat.le_of_ble_eq_true rfl), r658735, (fun R c1 c2 => c2 r658735)⟩))
/- tr_RAbstractStringBuilder_append: a.0...count, a.0.value.[] -/
def tr_RAbstractStringBuilder_append (a1 : Int32) (a0_count : Int32) (a0_value_v : Nat → Int32) (a0_value_n : Nat) (o1 : Int32) (o2 : Nat → Int32) : Prop := ∀ R : (Int32) → (Nat → Int32) → Prop,
  (∀ (x1 : Int32) (x2 : Int32) (x3 : Int32) (x4 : Nat → Int32), x1.toInt = a0_count.toInt + 1 → tr_RAbstractStringBuilder_ensureCapacityInternal x1 a0_value_n → tr_RStringLatin1_canEncode a1 (1 : Int32) → x2.toInt = a0_count.toInt + 1 → x3 = a1.toInt8.toInt32 → x4 = upd a0_value_v a0_count.toNatClampNeg (vp_nar .byte x3) → R x2 x4) →
  R o1 o2
abbrev ky_658688_AbstractStringBuilder_append : gKey := (cJ5_append_3fe6f, 2, "java/lang/AbstractStringBuilder", (some (FieldType.object "java/lang/AbstractStringBuilder")), [], "append", fun _ _ => True)
def pp_658688_AbstractStringBuilder_append (D : va_G) (I : FieldType → ClassId) (P658677 : List Nat) (F658678 : Nat → va_E) (q658679 : Nat) (q658680 : Nat) (p658681 : Int32) (p658682 : Int32) (p658683 : Int32) (f658684 : Nat → Int32) (n658685 : Nat) : Option Value → va_W → Nat → Nat → Prop := fun r w dc ds => ∃ (F658764 : Nat → va_E) (o658761 : Int32) (f658762 : Nat → Int32), r = some (.ref q658679) ∧ w = va_pl P658677 F658764 ∧ rFr [q658680, q658679] P658677 F658678 F658764 ∧ F658764 q658679 = .inr (1, [.ref q658680, .int 0, .int p658682, .int o658761]) ∧ F658764 q658680 = .inl (I .byte, n658685, .inl f658762) ∧ dc ≤ 0 ∧ ds ≤ 0 ∧ gB o658761 1 16777216 ∧ gF f658762 (-128) 127 ∧ o658761.toInt = p658683.toInt + 1 ∧ tr_RAbstractStringBuilder_append p658681 p658683 f658684 n658685 o658761 f658762
set_option maxRecDepth 100000 in
set_option maxHeartbeats 4000000 in
theorem cp_658688_AbstractStringBuilder_append (l : Launch) (hl0 : l.stackTraces = false) (D : va_G) (I : FieldType → ClassId) (P658677 : List Nat) (F658678 : Nat → va_E) (q658679 : Nat) (q658680 : Nat) (p658681 : Int32) (p658682 : Int32) (p658683 : Int32) (f658684 : Nat → Int32) (n658685 : Nat) (hmq658679 : q658679 ∈ P658677) (hmq658680 : q658680 ∈ P658677) (heq658679 : F658678 q658679 = .inr (1, [.ref q658680, .int 0, .int p658682, .int p658683])) (heq658680 : F658678 q658680 = .inl (I .byte, n658685, .inl f658684)) (bp658681 : gB p658681 0 255) (bp658682 : gB p658682 0 1) (bp658683 : gB p658683 0 16777216) (bf658684 : gF f658684 (-128) 127) (x658686 : p658683.toInt < (n658685 : Int)) (x658687 : ((n658685 : Int) ≤ 16777216)) : CtA (gV D I) l yJ5_append_3fe6f cJ5_append_3fe6f 2 (some (FieldType.object "java/lang/AbstractStringBuilder")) 1 22 0 0 [.ref q658679, .int p658681] (va_pl P658677 F658678) (pp_658688_AbstractStringBuilder_append D I P658677 F658678 q658679 q658680 p658681 p658682 p658683 f658684 n658685) gNA := by
  refine CtA_ofF hl0 (by decide +kernel) (Nat.le_of_ble_eq_true rfl) ?_
  refine G_aload_n 0 dr_cJ5_append_3fe6f_0 rfl ?_
  refine G_aload_n 0 dr_cJ5_append_3fe6f_1 rfl ?_
  refine Gp_get 3 hmq658679 heq658679 dr_cJ5_append_3fe6f_2 (gk_J4 D I) (Nat.le_of_ble_eq_true rfl) wr_7_64 rfl ?_
  refine G_iconst 1 dr_cJ5_append_3fe6f_5 (by decide +kernel) ?_
  refine G_iadd dr_cJ5_append_3fe6f_6 (G_nam fun z658689 hz658689 => ?_)
  have ez658689 : z658689.toInt = p658683.toInt + 1 := by rw [gI_add hz658689 bp658683 (gBl (show Int32.toInt 1 = 1 by decide)) (by decide) (by decide), show Int32.toInt 1 = 1 from by decide]
  have bz658689 : gB z658689 1 16777217 := gB_add (gI_add hz658689 bp658683 (gBl (show Int32.toInt 1 = 1 by decide)) (by decide) (by decide)) bp658683 (gBl (show Int32.toInt 1 = 1 by decide)) (by decide) (by decide)
  refine Gw_callVB (As := [.int z658689]) (gV_ok D I) (cp_658701_AbstractStringBuilder_ensureCapacityInternal l hl0 D I P658677 F658678 q658679 q658680 z658689 p658682 p658683 f658684 n658685 hmq658679 hmq658680 heq658679 heq658680 ⟨by omega, by omega⟩ bp658682 bp658683 bf658684 (by have qa0 : Int32.toInt 0 = 0 := (by decide); omega) (by have qa0 : Int32.toInt 0 = 0 := (by decide); omega)) dr_cJ5_append_3fe6f_7 ⟨wr_8_4, wr_1_19, wr_8_7, by decide, rfl, (Nat.le_of_ble_eq_true rfl), (Nat.le_of_ble_eq_true rfl)⟩ wr_8_6 wr_s_0 hmq658679 heq658679 rfl (show 0 + 0 ≤ 0 by first | omega | decide) (show 0 + 0 ≤ 0 by first | omega | decide) (Nat.le_of_ble_eq_true rfl) (fun r658711 w658712 dc658708 ds658709 hp658710 => ?_) (fun _ _ _ _ _ z => z.elim)
  obtain ⟨rfl, rfl, hdc, hds, ht658713⟩ := hp658710
  change G _ _ _ _ _ _ _ _ _ _ _
  refine G_widen (cs' := 0) (sl' := 0) (by omega) (by omega) ?_
  refine G_aload_n 0 dr_cJ5_append_3fe6f_10 rfl ?_
  refine Gw_callVB (As := []) (gV_ok D I) (cp_658723_AbstractStringBuilder_isLatin1 l hl0 D I P658677 F658678 q658679 q658680 p658682 p658683 f658684 n658685 hmq658679 hmq658680 heq658679 heq658680 bp658682 bp658683 bf658684 (by have qa0 : Int32.toInt 0 = 0 := (by decide); omega)) dr_cJ5_append_3fe6f_11 ⟨wr_8_33, wr_1_19, wr_8_37, by decide, rfl, (Nat.le_of_ble_eq_true rfl), (Nat.le_of_ble_eq_true rfl)⟩ wr_8_34 wr_8_36 hmq658679 heq658679 rfl (show 0 + 0 ≤ 0 by first | omega | decide) (show 0 + 0 ≤ 0 by first | omega | decide) (Nat.le_of_ble_eq_true rfl) (fun r658727 w658728 dc658724 ds658725 hp658726 => ?_) (fun _ _ _ _ _ z => z.elim)
  obtain ⟨rfl, rfl, hdc, hds⟩ := hp658726
  change G _ _ _ _ _ _ _ (.int 1 :: _) _ _ _
  refine G_widen (cs' := 0) (sl' := 0) (by omega) (by omega) ?_
  refine G_if_eq 45 dr_cJ5_append_3fe6f_14 (by decide +kernel) (fun hc => absurd hc (by decide)) (fun _ => ?_)
  refine G_iload_n 1 dr_cJ5_append_3fe6f_17 rfl ?_
  refine Gw_callS (As := [.int p658681]) (gV_ok D I) (cp_658732_StringLatin1_canEncode l hl0 D I P658677 F658678 p658681 (gB_w bp658681 (by decide) (by decide))) dr_cJ5_append_3fe6f_18 ⟨wr_8_38, wr_1_28, wr_8_40, by decide, rfl, (Nat.le_of_ble_eq_true rfl), (Nat.le_of_ble_eq_true rfl)⟩ wr_8_39 (show 0 + 0 ≤ 0 by first | omega | decide) (show 0 + 0 ≤ 0 by first | omega | decide) (Nat.le_of_ble_eq_true rfl) (fun r658739 w658740 dc658736 ds658737 hp658738 => ?_) (fun _ _ _ _ _ z => z.elim)
  rcases hp658738 with ⟨rfl, rfl, hdc, hds, r658741, r658742⟩ | ⟨rfl, rfl, hdc, hds, r658743, r658744⟩
  · exact absurd (show False by omega) not_false
  · change G _ _ _ _ _ _ _ (.int 1 :: _) _ _ _
    refine G_widen (cs' := 0) (sl' := 0) (by omega) (by omega) ?_
    refine G_if_eq 45 dr_cJ5_append_3fe6f_21 (by decide +kernel) (fun hc => absurd hc (by decide)) (fun _ => ?_)
    refine G_aload_n 0 dr_cJ5_append_3fe6f_24 rfl ?_
    refine Gp_get 0 hmq658679 heq658679 dr_cJ5_append_3fe6f_25 (gk_J4 D I) (Nat.le_of_ble_eq_true rfl) wr_7_60 rfl ?_
    refine G_aload_n 0 dr_cJ5_append_3fe6f_28 rfl ?_
    refine G_dup dr_cJ5_append_3fe6f_29 rfl ?_
    refine Gp_get 3 hmq658679 heq658679 dr_cJ5_append_3fe6f_30 (gk_J4 D I) (Nat.le_of_ble_eq_true rfl) wr_7_64 rfl ?_
    refine G_dup_x1 dr_cJ5_append_3fe6f_33 rfl rfl ?_
    refine G_iconst 1 dr_cJ5_append_3fe6f_34 (by decide +kernel) ?_
    refine G_iadd dr_cJ5_append_3fe6f_35 (G_nam fun z658746 hz658746 => ?_)
    have ez658746 : z658746.toInt = p658683.toInt + 1 := by rw [gI_add hz658746 bp658683 (gBl (show Int32.toInt 1 = 1 by decide)) (by decide) (by decide), show Int32.toInt 1 = 1 from by decide]
    have bz658746 : gB z658746 1 16777217 := gB_add (gI_add hz658746 bp658683 (gBl (show Int32.toInt 1 = 1 by decide)) (by decide) (by decide)) bp658683 (gBl (show Int32.toInt 1 = 1 by decide)) (by decide) (by decide)
    refine Gp_put 3 hmq658679 heq658679 dr_cJ5_append_3fe6f_36 (gk_J4 D I) (Nat.le_of_ble_eq_true rfl) wr_7_64 rfl rfl rfl (Nat.le_of_ble_eq_true rfl) (fun F658747 e658748 n658749 => ?_)
    have he658750 : F658747 q658680 = .inl (I .byte, n658685, .inl f658684) := (n658749 q658680 (rn_ao heq658680 heq658679)).trans heq658680
    have he658751 : F658747 q658679 = .inr (1, [.ref q658680, .int 0, .int p658682, .int z658746]) := e658748
    have hfr658752 : rFr [q658679] P658677 F658678 F658747 := rFr_put (rFr_rf (W := []) (P := P658677) (F := F658678)) n658749
    refine G_iload_n 1 dr_cJ5_append_3fe6f_39 rfl ?_
    refine G_i2b dr_cJ5_append_3fe6f_40 (G_nam fun z658753 hz658753 => ?_)
    have bz658753 : gB z658753 (-128) 127 := gB_i2b hz658753
    refine Gp_bast 1 hmq658680 he658750 dr_cJ5_append_3fe6f_41 rfl (gB_inr (by omega) (by omega)) (fun F658754 e658755 n658756 => ?_)
    obtain ⟨f658757, hf658757⟩ : ∃ z, z = upd f658684 p658683.toNatClampNeg (vp_nar .byte z658753) := ⟨_, rfl⟩
    rw [← hf658757] at e658755
    have he658758 : F658754 q658679 = .inr (1, [.ref q658680, .int 0, .int p658682, .int z658746]) := (n658756 q658679 (rn_oa he658751 he658750)).trans he658751
    have he658759 : F658754 q658680 = .inl (I .byte, n658685, .inl f658757) := e658755
    have hfr658760 : rFr [q658680, q658679] P658677 F658678 F658754 := rFr_put hfr658752 n658756
    have bf658757 : gF f658757 (-128) 127 := gF_upd hf658757 bf658684 gB_byte
    refine G_goto 75 dr_cJ5_append_3fe6f_42 (by decide +kernel) ?_
    refine G_aload_n 0 dr_cJ5_append_3fe6f_75 rfl ?_
    exact G_aretA (FieldType.object "java/lang/AbstractStringBuilder") dr_cJ5_append_3fe6f_76 rfl (by first | exact Or.inl ⟨_, rfl⟩ | exact Or.inr ⟨_, rfl⟩) (Or.inr ⟨_, rfl⟩) (Nat.le_of_ble_eq_true rfl) (Nat.le_of_ble_eq_true rfl) ⟨F658754, z658746, f658757, rfl, rfl, hfr658760, he658758, he658759, (Nat.le_of_ble_eq_true rfl), (Nat.le_of_ble_eq_true rfl), ⟨by omega, by omega⟩, bf658757, (by have qa0 : Int32.toInt 0 = 0 := (by decide); omega), (fun R c1 => c1 z658689 z658746 z658753 f658757 ez658689 ht658713 r658744 ez658746 hz658753 hf658757)⟩
/- tr_RStringBuilder_append: a.0...count, a.0.value.[] -/
def tr_RStringBuilder_append (a1 : Int32) (a0_count : Int32) (a0_value_v : Nat → Int32) (a0_value_n : Nat) (o1 : Int32) (o2 : Nat → Int32) : Prop := ∀ R : (Int32) → (Nat → Int32) → Prop,
  (∀ (x1 : Int32) (x2 : Nat → Int32), gB x1 1 16777216 → tr_RAbstractStringBuilder_append a1 a0_count a0_value_v a0_value_n x1 x2 → R x1 x2) →
  R o1 o2
abbrev ky_658676_StringBuilder_append : gKey := (cJ4_append_cf468, 2, "java/lang/StringBuilder", (some (FieldType.object "java/lang/StringBuilder")), [], "append", fun _ _ => True)
def pp_658676_StringBuilder_append (D : va_G) (I : FieldType → ClassId) (P658665 : List Nat) (F658666 : Nat → va_E) (q658667 : Nat) (q658668 : Nat) (p658669 : Int32) (p658670 : Int32) (p658671 : Int32) (f658672 : Nat → Int32) (n658673 : Nat) : Option Value → va_W → Nat → Nat → Prop := fun r w dc ds => ∃ (F658783 : Nat → va_E) (o658780 : Int32) (f658781 : Nat → Int32), r = some (.ref q658667) ∧ w = va_pl P658665 F658783 ∧ rFr [q658668, q658667] P658665 F658666 F658783 ∧ F658783 q658667 = .inr (1, [.ref q658668, .int 0, .int p658670, .int o658780]) ∧ F658783 q658668 = .inl (I .byte, n658673, .inl f658781) ∧ dc ≤ 0 ∧ ds ≤ 0 ∧ gB o658780 1 16777216 ∧ gF f658781 (-128) 127 ∧ o658780.toInt = p658671.toInt + 1 ∧ tr_RStringBuilder_append p658669 p658671 f658672 n658673 o658780 f658781
set_option maxRecDepth 100000 in
set_option maxHeartbeats 4000000 in
theorem cp_658676_StringBuilder_append (l : Launch) (hl0 : l.stackTraces = false) (D : va_G) (I : FieldType → ClassId) (P658665 : List Nat) (F658666 : Nat → va_E) (q658667 : Nat) (q658668 : Nat) (p658669 : Int32) (p658670 : Int32) (p658671 : Int32) (f658672 : Nat → Int32) (n658673 : Nat) (hmq658667 : q658667 ∈ P658665) (hmq658668 : q658668 ∈ P658665) (heq658667 : F658666 q658667 = .inr (1, [.ref q658668, .int 0, .int p658670, .int p658671])) (heq658668 : F658666 q658668 = .inl (I .byte, n658673, .inl f658672)) (bp658669 : gB p658669 0 255) (bp658670 : gB p658670 0 1) (bp658671 : gB p658671 0 16777216) (bf658672 : gF f658672 (-128) 127) (x658674 : p658671.toInt < (n658673 : Int)) (x658675 : ((n658673 : Int) ≤ 16777216)) : CtA (gV D I) l yJ4_append_cf468 cJ4_append_cf468 2 (some (FieldType.object "java/lang/StringBuilder")) 2 43 0 0 [.ref q658667, .int p658669] (va_pl P658665 F658666) (pp_658676_StringBuilder_append D I P658665 F658666 q658667 q658668 p658669 p658670 p658671 f658672 n658673) gNA := by
  refine CtA_ofF hl0 (by decide +kernel) (Nat.le_of_ble_eq_true rfl) ?_
  refine G_aload_n 0 dr_cJ4_append_cf468_0 rfl ?_
  refine G_iload_n 1 dr_cJ4_append_cf468_1 rfl ?_
  refine Gw_callSU (As := [.int p658669]) (gV_ok D I) (cp_658688_AbstractStringBuilder_append l hl0 D I P658665 F658666 q658667 q658668 p658669 p658670 p658671 f658672 n658673 hmq658667 hmq658668 heq658667 heq658668 bp658669 bp658670 bp658671 bf658672 (by have qa0 : Int32.toInt 0 = 0 := (by decide); omega) (by have qa0 : Int32.toInt 0 = 0 := (by decide); omega)) dr_cJ4_append_cf468_2 ⟨wr_8_1, wr_1_19, wr_8_3, by decide, rfl, (Nat.le_of_ble_eq_true rfl), (Nat.le_of_ble_eq_true rfl)⟩ wr_8_2 wr_11_224 wr_7_73 wr_7_44 (by decide) hmq658667 heq658667 rfl (show 0 + 0 ≤ 0 by first | omega | decide) (show 0 + 0 ≤ 0 by first | omega | decide) (Nat.le_of_ble_eq_true rfl) (fun r658768 w658769 dc658765 ds658766 hp658767 => ?_)
  obtain ⟨F658774, o658770, f658771, rfl, rfl, hfr658776, he658777, he658778, hdc, hds, bo658770, bf658771, x658772, ht658773⟩ := hp658767
  have hfr658779 : rFr [q658668, q658667] P658665 F658666 F658774 := rFr_call (rSub_rf (P := P658665)) (rFr_rf (W := []) (P := P658665) (F := F658666)) hfr658776 (fun b hb hn => ⟨nm_n, (nm_c (fun e => hn (e ▸ List.mem_cons_self)) (nm_c (fun e => hn (e ▸ (List.mem_cons_of_mem _ List.mem_cons_self))) nm_n))⟩)
  change G _ _ _ _ _ _ _ (.ref q658667 :: _) _ _ _
  refine G_widen (cs' := 0) (sl' := 0) (by omega) (by omega) ?_
  refine G_pop dr_cJ4_append_cf468_5 rfl ?_
  refine G_aload_n 0 dr_cJ4_append_cf468_6 rfl ?_
  exact G_aretA (FieldType.object "java/lang/StringBuilder") dr_cJ4_append_cf468_7 rfl (by first | exact Or.inl ⟨_, rfl⟩ | exact Or.inr ⟨_, rfl⟩) (Or.inr ⟨_, rfl⟩) (Nat.le_of_ble_eq_true rfl) (Nat.le_of_ble_eq_true rfl) ⟨F658774, o658770, f658771, rfl, rfl, hfr658779, he658777, he658778, (Nat.le_of_ble_eq_true rfl), (Nat.le_of_ble_eq_true rfl), bo658770, bf658771, (by have qa0 : Int32.toInt 0 = 0 := (by decide); omega), (fun R c1 => c1 o658770 f658771 bo658770 ht658773)⟩
/- tr_RAbstractStringBuilder_newCapacity: result -/
def tr_RAbstractStringBuilder_newCapacity (a1 : Int32) (a0_value_n : Nat) (o1 : Int32) : Prop := ∀ R : (Int32) → Prop,
  (∀ (x1 : Int32) (x2 : Int32) (x3 : Int32) (x4 : Int32) (x5 : Int32) (x6 : Int32) (x7 : Int32), x1.toInt = (a0_value_n : Nat) → x2.toInt = a1.toInt * 1 → x3.toInt = x2.toInt - x1.toInt → x4.toInt = 2 * 1 → x5.toInt = x1.toInt + x4.toInt → gB x6 1 33554432 → tr_RArraysSupport_newLength x1 x3 x5 x6 → x7.toInt = x6.toInt / 1 → R x7) →
  R o1
abbrev ky_658841_AbstractStringBuilder_newCapacity : gKey := (cJ5_newCapacity_0f7a4, 6, "java/lang/AbstractStringBuilder", (some FieldType.int), [], "newCapacity", fun _ _ => True)
def pp_658841_AbstractStringBuilder_newCapacity (D : va_G) (I : FieldType → ClassId) (P658829 : List Nat) (F658830 : Nat → va_E) (q658831 : Nat) (q658832 : Nat) (p658833 : Int32) (p658834 : Int32) (p658835 : Int32) (f658836 : Nat → Int32) (n658837 : Nat) : Option Value → va_W → Nat → Nat → Prop := fun r w dc ds => ∃ (o658856 : Int32), r = some (.int o658856) ∧ w = va_pl P658829 F658830 ∧ dc ≤ 0 ∧ ds ≤ 0 ∧ gB o658856 1 33554432 ∧ p658833.toInt ≤ o658856.toInt ∧ 2 * (n658837 : Int) + 2 ≤ o658856.toInt ∧ (o658856.toInt ≤ 2 * (n658837 : Int) + 2 ∨ o658856.toInt ≤ p658833.toInt) ∧ tr_RAbstractStringBuilder_newCapacity p658833 n658837 o658856
set_option maxRecDepth 100000 in
set_option maxHeartbeats 4000000 in
theorem cp_658841_AbstractStringBuilder_newCapacity (l : Launch) (hl0 : l.stackTraces = false) (D : va_G) (I : FieldType → ClassId) (P658829 : List Nat) (F658830 : Nat → va_E) (q658831 : Nat) (q658832 : Nat) (p658833 : Int32) (p658834 : Int32) (p658835 : Int32) (f658836 : Nat → Int32) (n658837 : Nat) (hmq658831 : q658831 ∈ P658829) (hmq658832 : q658832 ∈ P658829) (heq658831 : F658830 q658831 = .inr (1, [.ref q658832, .int 0, .int p658834, .int p658835])) (heq658832 : F658830 q658832 = .inl (I .byte, n658837, .inl f658836)) (bp658833 : gB p658833 0 8388608) (bp658834 : gB p658834 0 1) (bp658835 : gB p658835 0 16777216) (bf658836 : gF f658836 (-128) 127) (x658838 : (n658837 : Int) < p658833.toInt) (x658839 : (n658837 : Int) ≤ 8388608) (x658840 : ((n658837 : Int) ≤ 16777216)) : CtA (gV D I) l yJ5_newCapacity_0f7a4 cJ5_newCapacity_0f7a4 6 (some FieldType.int) 2 37 0 0 [.ref q658831, .int p658833] (va_pl P658829 F658830) (pp_658841_AbstractStringBuilder_newCapacity D I P658829 F658830 q658831 q658832 p658833 p658834 p658835 f658836 n658837) gNA := by
  refine CtA_ofF hl0 (by decide +kernel) (Nat.le_of_ble_eq_true rfl) ?_
  refine G_aload_n 0 dr_cJ5_newCapacity_0f7a4_0 rfl ?_
  refine Gp_get 0 hmq658831 heq658831 dr_cJ5_newCapacity_0f7a4_1 (gk_J4 D I) (Nat.le_of_ble_eq_true rfl) wr_7_60 rfl ?_
  refine Gp_alen (Int32.ofNat n658837) 1 hmq658832 heq658832 dr_cJ5_newCapacity_0f7a4_4 rfl rfl (G_nam fun z658842 hz658842 => ?_)
  have ez658842 : z658842.toInt = (n658837 : Nat) := gI_ofM hz658842 (by omega)
  have bz658842 : gB z658842 0 16777216 := ⟨by omega, by omega⟩
  refine G_istore_n (L' := [(2, .int z658842), (0, .ref q658831), (1, .int p658833)]) dr_cJ5_newCapacity_0f7a4_5 (Nat.le_of_ble_eq_true rfl) rfl ?_
  refine G_iload_n 2 dr_cJ5_newCapacity_0f7a4_6 rfl ?_
  refine G_aload_n 1 dr_cJ5_newCapacity_0f7a4_7 rfl ?_
  refine Gp_get 1 hmq658831 heq658831 dr_cJ5_newCapacity_0f7a4_8 (gk_J4 D I) (Nat.le_of_ble_eq_true rfl) wr_7_61 rfl ?_
  refine G_ishl dr_cJ5_newCapacity_0f7a4_11 (G_nam fun z658843 hz658843 => ?_)
  have ez658843 : z658843.toInt = p658833.toInt * 1 := gI_shl (k := 0) hz658843 (by decide) bp658833 (by decide) (by decide)
  have bz658843 : gB z658843 0 8388608 := ⟨by omega, by omega⟩
  refine G_istore_n (L' := [(3, .int z658843), (2, .int z658842), (0, .ref q658831), (1, .int p658833)]) dr_cJ5_newCapacity_0f7a4_12 (Nat.le_of_ble_eq_true rfl) rfl ?_
  refine G_iload_n 0 dr_cJ5_newCapacity_0f7a4_13 rfl ?_
  refine G_iload_n 1 dr_cJ5_newCapacity_0f7a4_14 rfl ?_
  refine G_isub dr_cJ5_newCapacity_0f7a4_15 (G_nam fun z658844 hz658844 => ?_)
  have ez658844 : z658844.toInt = z658843.toInt - z658842.toInt := by rw [gI_sub hz658844 bz658843 bz658842 (by decide) (by decide)]
  have bz658844 : gB z658844 (-16777216) 8388608 := gB_sub (gI_sub hz658844 bz658843 bz658842 (by decide) (by decide)) bz658843 bz658842 (by decide) (by decide)
  refine G_istore (L' := [(4, .int z658844), (3, .int z658843), (2, .int z658842), (0, .ref q658831), (1, .int p658833)]) dr_cJ5_newCapacity_0f7a4_16 (Nat.le_of_ble_eq_true rfl) rfl ?_
  refine G_iload_n 2 dr_cJ5_newCapacity_0f7a4_18 rfl ?_
  refine G_iload 0 dr_cJ5_newCapacity_0f7a4_19 rfl ?_
  refine G_iload_n 2 dr_cJ5_newCapacity_0f7a4_21 rfl ?_
  refine G_iconst 2 dr_cJ5_newCapacity_0f7a4_22 (by decide +kernel) ?_
  refine G_aload_n 3 dr_cJ5_newCapacity_0f7a4_23 rfl ?_
  refine Gp_get 1 hmq658831 heq658831 dr_cJ5_newCapacity_0f7a4_24 (gk_J4 D I) (Nat.le_of_ble_eq_true rfl) wr_7_61 rfl ?_
  refine G_ishl dr_cJ5_newCapacity_0f7a4_27 (G_nam fun z658845 hz658845 => ?_)
  have ez658845 : z658845.toInt = 2 * 1 := gI_shl (k := 0) hz658845 (by decide) (gBl (show Int32.toInt 2 = 2 by decide)) (by decide) (by decide)
  have bz658845 : gB z658845 2 2 := ⟨by omega, by omega⟩
  refine G_iadd dr_cJ5_newCapacity_0f7a4_28 (G_nam fun z658846 hz658846 => ?_)
  have ez658846 : z658846.toInt = z658842.toInt + z658845.toInt := by rw [gI_add hz658846 bz658842 bz658845 (by decide) (by decide)]
  have bz658846 : gB z658846 2 16777218 := gB_add (gI_add hz658846 bz658842 bz658845 (by decide) (by decide)) bz658842 bz658845 (by decide) (by decide)
  refine Gw_callS (As := [.int z658842, .int z658844, .int z658846]) (gV_ok D I) (cp_355_ArraysSupport_newLength l hl0 D I P658829 F658830 z658842 z658844 z658846 bz658842 ⟨by omega, by omega⟩ ⟨by omega, by omega⟩) dr_cJ5_newCapacity_0f7a4_29 ⟨wr_8_12, wr_1_33, wr_8_14, by decide, rfl, (Nat.le_of_ble_eq_true rfl), (Nat.le_of_ble_eq_true rfl)⟩ wr_8_13 (show 0 + 0 ≤ 0 by first | omega | decide) (show 0 + 0 ≤ 0 by first | omega | decide) (Nat.le_of_ble_eq_true rfl) (fun r658850 w658851 dc658847 ds658848 hp658849 => ?_) (fun _ _ _ _ _ z => z.elim)
  obtain ⟨o658852, rfl, rfl, hdc, hds, bo658852, x658853, ht658854⟩ := hp658849
  change G _ _ _ _ _ _ _ (.int o658852 :: _) _ _ _
  refine G_widen (cs' := 0) (sl' := 0) (by omega) (by omega) ?_
  refine G_istore (L' := [(5, .int o658852), (4, .int z658844), (3, .int z658843), (2, .int z658842), (0, .ref q658831), (1, .int p658833)]) dr_cJ5_newCapacity_0f7a4_32 (Nat.le_of_ble_eq_true rfl) rfl ?_
  refine G_iload 0 dr_cJ5_newCapacity_0f7a4_34 rfl ?_
  refine G_ldc 2147483647 dr_cJ5_newCapacity_0f7a4_36 wr_8_20 ?_
  refine G_icmp_ne 51 dr_cJ5_newCapacity_0f7a4_38 (by decide +kernel) (fun _ => ?_) (fun hc => absurd (show False by have := gj_eq hc (show Int32.toInt 2147483647 = 2147483647 by decide); omega) not_false)
  refine G_iload 0 dr_cJ5_newCapacity_0f7a4_51 rfl ?_
  refine G_aload_n 4 dr_cJ5_newCapacity_0f7a4_53 rfl ?_
  refine Gp_get 1 hmq658831 heq658831 dr_cJ5_newCapacity_0f7a4_54 (gk_J4 D I) (Nat.le_of_ble_eq_true rfl) wr_7_61 rfl ?_
  refine G_ishr dr_cJ5_newCapacity_0f7a4_57 (G_nam fun z658855 hz658855 => ?_)
  have ez658855 : z658855.toInt = o658852.toInt / 1 := gI_shr (k := 0) hz658855 (by decide)
  have bz658855 : gB z658855 1 33554432 := ⟨by omega, by omega⟩
  exact G_iretA dr_cJ5_newCapacity_0f7a4_58 rfl (Nat.le_of_ble_eq_true rfl) (Nat.le_of_ble_eq_true rfl) ⟨z658855, rfl, rfl, (Nat.le_of_ble_eq_true rfl), (Nat.le_of_ble_eq_true rfl), bz658855, (by have qa0 : Int32.toInt 0 = 0 := (by decide); omega), (by have qa0 : Int32.toInt 0 = 0 := (by decide); omega), (by have qa0 : Int32.toInt 0 = 0 := (by decide); omega), (fun R c1 => c1 z658842 z658843 z658844 z658845 z658846 o658852 z658855 ez658842 ez658843 ez658844 ez658845 ez658846 bo658852 ht658854 ez658855)⟩
/- tr_RArrays_copyOf3: a.2.[] -/
def tr_RArrays_copyOf3 (a1 : Int32) (a0_v : Nat → Int32) (a0_n : Nat) (o1 : Nat → Int32) : Prop := ∀ R : (Nat → Int32) → Prop,
  (∀ (x1 : Int32) (x2 : Int32) (x3 : Int32) (x4 : Nat → Int32), x1.toInt = (a0_n : Nat) → a1.toInt ≠ x1.toInt → x2.toInt = (a0_n : Nat) → (x2.toInt ≥ x3.toInt ∧ a1.toInt ≥ x3.toInt ∧ (x3.toInt = x2.toInt ∨ x3.toInt = a1.toInt)) → (x4 = va_cpy a0_v (fun _ => 0) (0 : Int32).toNatClampNeg (0 : Int32).toNatClampNeg x3.toNatClampNeg) → R x4) →
  R o1
abbrev ky_658876_Arrays_copyOf : gKey := (cJ7_copyOf_9075b, 3, "java/util/Arrays", (some (FieldType.array FieldType.byte)), [], "copyOf", fun _ _ => True)
def pp_658876_Arrays_copyOf (D : va_G) (I : FieldType → ClassId) (P658868 : List Nat) (F658869 : Nat → va_E) (q658870 : Nat) (p658871 : Int32) (f658872 : Nat → Int32) (n658873 : Nat) : Option Value → va_W → Nat → Nat → Prop := fun r w dc ds => ∃ (P658906 : List Nat) (F658907 : Nat → va_E) (q658904 : Nat) (f658905 : Nat → Int32), r = some (.ref q658904) ∧ w = va_pl P658906 F658907 ∧ rSub P658868 P658906 ∧ rFr [] P658868 F658869 F658907 ∧ F658907 q658870 = .inl (I .byte, n658873, .inl f658872) ∧ F658907 q658904 = .inl (I .byte, p658871.toInt.toNat, .inl f658905) ∧ q658904 ∈ P658906 ∧ q658904 ∉ P658868 ∧ dc ≤ 1 ∧ ds ≤ p658871.toInt.toNat ∧ gF f658905 (-128) 127 ∧ tr_RArrays_copyOf3 p658871 f658872 n658873 f658905
set_option maxRecDepth 100000 in
set_option maxHeartbeats 4000000 in
theorem cp_658876_Arrays_copyOf (l : Launch) (hl0 : l.stackTraces = false) (D : va_G) (I : FieldType → ClassId) (P658868 : List Nat) (F658869 : Nat → va_E) (q658870 : Nat) (p658871 : Int32) (f658872 : Nat → Int32) (n658873 : Nat) (hmq658870 : q658870 ∈ P658868) (heq658870 : F658869 q658870 = .inl (I .byte, n658873, .inl f658872)) (bp658871 : gB p658871 0 33554432) (bf658872 : gF f658872 (-128) 127) (x658874 : (n658873 : Int) < p658871.toInt) (x658875 : ((n658873 : Int) ≤ 16777216)) : CtA (gV D I) l yJ7_copyOf_9075b cJ7_copyOf_9075b 3 (some (FieldType.array FieldType.byte)) 1 18 1 p658871.toInt.toNat [.ref q658870, .int p658871] (va_pl P658868 F658869) (pp_658876_Arrays_copyOf D I P658868 F658869 q658870 p658871 f658872 n658873) gNA := by
  refine CtA_ofF hl0 (by decide +kernel) (Nat.le_of_ble_eq_true rfl) ?_
  refine G_iload_n 1 dr_cJ7_copyOf_9075b_0 rfl ?_
  refine G_aload_n 0 dr_cJ7_copyOf_9075b_1 rfl ?_
  refine Gp_alen (Int32.ofNat n658873) 1 hmq658870 heq658870 dr_cJ7_copyOf_9075b_2 rfl rfl (G_nam fun z658877 hz658877 => ?_)
  have ez658877 : z658877.toInt = (n658873 : Nat) := gI_ofM hz658877 (by omega)
  have bz658877 : gB z658877 0 16777216 := ⟨by omega, by omega⟩
  refine G_icmp_ne 14 dr_cJ7_copyOf_9075b_3 (by decide +kernel) (fun hc658878 => ?_) (fun hc => absurd (show False by have := gC_eq hc; omega) not_false)
  have r658880 : p658871.toInt ≠ z658877.toInt := gC_ne hc658878
  refine G_iload_n 1 dr_cJ7_copyOf_9075b_14 rfl ?_
  refine G_newa 1 (p658871.toInt.toNat, .inl (fun _ => 0)) dr_cJ7_copyOf_9075b_15 rfl rfl (by intro C h; cases h) wr_1_66 (fun _ => ga_byte _ _) (g_n0 (by omega)) rfl (show p658871.toInt.toNat * 1 ≤ 536870912 by omega) (show 0 + 1 ≤ 1 by first | omega | decide) (show 0 + p658871.toInt.toNat ≤ p658871.toInt.toNat by first | omega | decide) (fun q658881 => Gp_in (fun P658882 F658883 hq658884 hP658885 e658886 n658887 => ?_))
  refine G_widen (cs' := 1) (sl' := p658871.toInt.toNat) (by omega) (by omega) ?_
  have he658888 : F658883 q658870 = .inl (I .byte, n658873, .inl f658872) := (n658887 q658870 (fun h => hq658884 (h ▸ hmq658870))).trans heq658870
  have he658889 : F658883 q658881 = .inl (I .byte, p658871.toInt.toNat, .inl (fun _ => 0)) := e658886
  have hm658890 : q658870 ∈ P658882 := (hP658885 q658870).mpr (Or.inl hmq658870)
  have hm658891 : q658881 ∈ P658882 := (hP658885 q658881).mpr (Or.inr rfl)
  have hq658892 : q658881 ∉ P658868 := fun z => hq658884 ((rSub_rf (P := P658868)) q658881 z)
  have hfr658893 : rFr [] P658868 F658869 F658883 := rFr_new (rSub_rf (P := P658868)) hq658884 (rFr_rf (W := []) (P := P658868) (F := F658869)) n658887
  have hsb658894 : rSub P658868 P658882 := rSub_new (rSub_rf (P := P658868)) hP658885
  refine G_astore_n (L' := [(2, .ref q658881), (0, .ref q658870), (1, .int p658871)]) dr_cJ7_copyOf_9075b_17 (Nat.le_of_ble_eq_true rfl) rfl ?_
  refine G_aload_n 1 dr_cJ7_copyOf_9075b_18 rfl ?_
  refine G_iconst 0 dr_cJ7_copyOf_9075b_19 (by decide +kernel) ?_
  refine G_aload_n 0 dr_cJ7_copyOf_9075b_20 rfl ?_
  refine G_iconst 0 dr_cJ7_copyOf_9075b_21 (by decide +kernel) ?_
  refine G_aload_n 1 dr_cJ7_copyOf_9075b_22 rfl ?_
  refine Gp_alen (Int32.ofNat n658873) 1 hm658890 he658888 dr_cJ7_copyOf_9075b_23 rfl rfl (G_nam fun z658895 hz658895 => ?_)
  have ez658895 : z658895.toInt = (n658873 : Nat) := gI_ofM hz658895 (by omega)
  have bz658895 : gB z658895 0 16777216 := ⟨by omega, by omega⟩
  refine G_iload_n 2 dr_cJ7_copyOf_9075b_24 rfl ?_
  refine G_mmin dr_cJ7_copyOf_9075b_25 wr_8_31 wr_3_227 wr_1_6 wr_3_228 (Nat.le_of_ble_eq_true rfl) (Nat.le_of_ble_eq_true rfl) (show 1 ≤ 1 by first | omega | decide) (show p658871.toInt.toNat ≤ p658871.toInt.toNat by first | omega | decide) (G_nam fun z658896 hz658896 => ?_)
  have ez658896 : z658895.toInt ≥ z658896.toInt ∧ p658871.toInt ≥ z658896.toInt ∧ (z658896.toInt = z658895.toInt ∨ z658896.toInt = p658871.toInt) := by have := gI_min hz658896; omega
  have bz658896 : gB z658896 0 16777216 := ⟨by omega, by omega⟩
  refine Gp_copyp 1 hm658890 hm658891 he658888 he658889 dr_cJ7_copyOf_9075b_28 wr_8_32 wr_5_113 wr_5_112 wr_1_34 rfl rfl (fun j => gT_byte (bf658872 j)) (by decide) (by decide) (by omega) (by have qa0 : Int32.toInt 0 = 0 := (by decide); omega) (by have qa0 : Int32.toInt 0 = 0 := (by decide); omega) (Nat.le_of_ble_eq_true rfl) (Nat.le_of_ble_eq_true rfl) (fun F658897 e658898 n658899 => ?_)
  obtain ⟨f658900, hf658900⟩ : ∃ z, z = va_cpy f658872 (fun _ => 0) (0 : Int32).toNatClampNeg (0 : Int32).toNatClampNeg z658896.toNatClampNeg := ⟨_, rfl⟩
  rw [← hf658900] at e658898
  have bf658900 : gF f658900 (-128) 127 := gF_cpy hf658900 bf658872 (gF_w gF_0 (by decide) (by decide))
  have he658901 : F658897 q658870 = .inl (I .byte, n658873, .inl f658872) := (n658899 q658870 (fun h => hq658892 (h ▸ hmq658870))).trans he658888
  have he658902 : F658897 q658881 = .inl (I .byte, p658871.toInt.toNat, .inl f658900) := e658898
  have hfr658903 : rFr [] P658868 F658869 F658897 := rFr_newp hq658892 hfr658893 n658899
  refine G_aload_n 0 dr_cJ7_copyOf_9075b_31 rfl ?_
  exact G_aretA (FieldType.array FieldType.byte) dr_cJ7_copyOf_9075b_32 rfl (by first | exact Or.inl ⟨_, rfl⟩ | exact Or.inr ⟨_, rfl⟩) (Or.inr ⟨_, rfl⟩) (Nat.le_of_ble_eq_true rfl) (show p658871.toInt.toNat ≤ p658871.toInt.toNat by omega) ⟨P658882, F658897, q658881, f658900, rfl, rfl, hsb658894, hfr658903, he658901, he658902, hm658891, hq658892, (Nat.le_of_ble_eq_true rfl), (by omega), bf658900, (fun R c1 => c1 z658877 z658895 z658896 f658900 ez658877 r658880 ez658895 ez658896 hf658900)⟩
/- tr_RAbstractStringBuilder_ensureCapacityInternal2: a.0.value.#, a.0.value.[] -/
def tr_RAbstractStringBuilder_ensureCapacityInternal2 (a1 : Int32) (a0_value_v : Nat → Int32) (a0_value_n : Nat) (o1 : Nat) (o2 : Nat → Int32) : Prop := ∀ R : (Nat) → (Nat → Int32) → Prop,
  (∀ (x1 : Int32) (x2 : Int32) (x3 : Int32), x1.toInt = (a0_value_n : Nat) → x2.toInt = x1.toInt / 1 → x3.toInt = a1.toInt - x2.toInt → x3.toInt ≤ 0 → R a0_value_n a0_value_v) →
  (∀ (x1 : Int32) (x2 : Int32) (x3 : Int32) (x4 : Int32) (x5 : Int32) (x6 : Nat → Int32), x1.toInt = (a0_value_n : Nat) → x2.toInt = x1.toInt / 1 → x3.toInt = a1.toInt - x2.toInt → 0 < x3.toInt → gB x4 1 33554432 → tr_RAbstractStringBuilder_newCapacity a1 a0_value_n x4 → x5.toInt = x4.toInt * 1 → tr_RArrays_copyOf3 x5 a0_value_v a0_value_n x6 → R x5.toInt.toNat x6) →
  R o1 o2
abbrev ky_658822_AbstractStringBuilder_ensureCapacityInternal : gKey := (cJ5_ensureCapacityInternal_d00df, 3, "java/lang/AbstractStringBuilder", none, [], "ensureCapacityInternal", fun _ _ => True)
def pp_658822_AbstractStringBuilder_ensureCapacityInternal (D : va_G) (I : FieldType → ClassId) (P658811 : List Nat) (F658812 : Nat → va_E) (q658813 : Nat) (q658814 : Nat) (p658815 : Int32) (p658816 : Int32) (p658817 : Int32) (f658818 : Nat → Int32) (n658819 : Nat) : Option Value → va_W → Nat → Nat → Prop := fun r w dc ds => ∃ (P658940 : List Nat) (F658941 : Nat → va_E) (q658937 : Nat) (n658938 : Nat) (f658939 : Nat → Int32), r = none ∧ w = va_pl P658940 F658941 ∧ rSub P658811 P658940 ∧ rFr [q658813] P658811 F658812 F658941 ∧ F658941 q658813 = .inr (1, [.ref q658937, .int 0, .int p658816, .int p658817]) ∧ F658941 q658937 = .inl (I .byte, n658938, .inl f658939) ∧ q658937 ∈ P658940 ∧ (q658937 = q658814 ∨ q658937 ∉ P658811) ∧ dc ≤ 1 ∧ ds ≤ 2 * (n658938 - n658819) ∧ gF f658939 (-128) 127 ∧ p658815.toInt ≤ (n658938 : Int) ∧ (n658819 : Int) ≤ (n658938 : Int) ∧ ((n658938 : Int) = (n658819 : Int) ∨ (n658819 : Int) < p658815.toInt) ∧ ((n658938 : Int) ≤ 2 * (n658819 : Int) + 2 ∨ (n658938 : Int) ≤ p658815.toInt) ∧ tr_RAbstractStringBuilder_ensureCapacityInternal2 p658815 f658818 n658819 n658938 f658939
set_option maxRecDepth 100000 in
set_option maxHeartbeats 4000000 in
theorem cp_658822_AbstractStringBuilder_ensureCapacityInternal (l : Launch) (hl0 : l.stackTraces = false) (D : va_G) (I : FieldType → ClassId) (P658811 : List Nat) (F658812 : Nat → va_E) (q658813 : Nat) (q658814 : Nat) (p658815 : Int32) (p658816 : Int32) (p658817 : Int32) (f658818 : Nat → Int32) (n658819 : Nat) (hmq658813 : q658813 ∈ P658811) (hmq658814 : q658814 ∈ P658811) (heq658813 : F658812 q658813 = .inr (1, [.ref q658814, .int 0, .int p658816, .int p658817])) (heq658814 : F658812 q658814 = .inl (I .byte, n658819, .inl f658818)) (bp658815 : gB p658815 0 8388608) (bp658816 : gB p658816 0 1) (bp658817 : gB p658817 0 16777216) (bf658818 : gF f658818 (-128) 127) (x658820 : (n658819 : Int) ≤ 8388608) (x658821 : ((n658819 : Int) ≤ 16777216)) : CtA (gV D I) l yJ5_ensureCapacityInternal_d00df cJ5_ensureCapacityInternal_d00df 3 none 3 62 1 (2 * n658819 + 2 + p658815.toInt.toNat) [.ref q658813, .int p658815] (va_pl P658811 F658812) (pp_658822_AbstractStringBuilder_ensureCapacityInternal D I P658811 F658812 q658813 q658814 p658815 p658816 p658817 f658818 n658819) gNA := by
  refine CtA_ofF hl0 (by decide +kernel) (Nat.le_of_ble_eq_true rfl) ?_
  refine G_aload_n 0 dr_cJ5_ensureCapacityInternal_d00df_0 rfl ?_
  refine Gp_get 0 hmq658813 heq658813 dr_cJ5_ensureCapacityInternal_d00df_1 (gk_J4 D I) (Nat.le_of_ble_eq_true rfl) wr_7_60 rfl ?_
  refine Gp_alen (Int32.ofNat n658819) 1 hmq658814 heq658814 dr_cJ5_ensureCapacityInternal_d00df_4 rfl rfl (G_nam fun z658823 hz658823 => ?_)
  have ez658823 : z658823.toInt = (n658819 : Nat) := gI_ofM hz658823 (by omega)
  have bz658823 : gB z658823 0 16777216 := ⟨by omega, by omega⟩
  refine G_aload_n 0 dr_cJ5_ensureCapacityInternal_d00df_5 rfl ?_
  refine Gp_get 1 hmq658813 heq658813 dr_cJ5_ensureCapacityInternal_d00df_6 (gk_J4 D I) (Nat.le_of_ble_eq_true rfl) wr_7_61 rfl ?_
  refine G_ishr dr_cJ5_ensureCapacityInternal_d00df_9 (G_nam fun z658824 hz658824 => ?_)
  have ez658824 : z658824.toInt = z658823.toInt / 1 := gI_shr (k := 0) hz658824 (by decide)
  have bz658824 : gB z658824 0 16777216 := ⟨by omega, by omega⟩
  refine G_istore_n (L' := [(2, .int z658824), (0, .ref q658813), (1, .int p658815)]) dr_cJ5_ensureCapacityInternal_d00df_10 (Nat.le_of_ble_eq_true rfl) rfl ?_
  refine G_iload_n 2 dr_cJ5_ensureCapacityInternal_d00df_11 rfl ?_
  refine G_iload_n 0 dr_cJ5_ensureCapacityInternal_d00df_12 rfl ?_
  refine G_isub dr_cJ5_ensureCapacityInternal_d00df_13 (G_nam fun z658825 hz658825 => ?_)
  have ez658825 : z658825.toInt = p658815.toInt - z658824.toInt := by rw [gI_sub hz658825 bp658815 bz658824 (by decide) (by decide)]
  have bz658825 : gB z658825 (-16777216) 8388608 := gB_sub (gI_sub hz658825 bp658815 bz658824 (by decide) (by decide)) bp658815 bz658824 (by decide) (by decide)
  refine G_if_le 38 dr_cJ5_ensureCapacityInternal_d00df_14 (by decide +kernel) (fun hc658826 => ?_) (fun hc658826 => ?_)
  · have r658827 : z658825.toInt ≤ 0 := gj_le hc658826 (show Int32.toInt 0 = 0 by decide)
    have bz658825' : gB z658825 (-16777216) 0 := ⟨by omega, by omega⟩
    exact G_vretA dr_cJ5_ensureCapacityInternal_d00df_38 rfl (Nat.le_of_ble_eq_true rfl) (Nat.le_of_ble_eq_true rfl) ⟨P658811, F658812, q658814, n658819, f658818, rfl, rfl, (rSub_rf (P := P658811)), (rFr_v (rFr_rf (W := []) (P := P658811) (F := F658812)) (fun b hn => nm_n)), heq658813, heq658814, hmq658814, (Or.inl rfl), (Nat.le_of_ble_eq_true rfl), (by omega), bf658818, (by have qa0 : Int32.toInt 0 = 0 := (by decide); omega), (by have qa0 : Int32.toInt 0 = 0 := (by decide); omega), (by have qa0 : Int32.toInt 0 = 0 := (by decide); omega), (by have qa0 : Int32.toInt 0 = 0 := (by decide); omega), (fun R c1 c2 => c1 z658823 z658824 z658825 ez658823 ez658824 ez658825 r658827)⟩
  · have r658828 : 0 < z658825.toInt := gj_nle hc658826 (show Int32.toInt 0 = 0 by decide)
    have bz658825' : gB z658825 1 8388608 := ⟨by omega, by omega⟩
    refine G_aload_n 1 dr_cJ5_ensureCapacityInternal_d00df_17 rfl ?_
    refine G_aload_n 1 dr_cJ5_ensureCapacityInternal_d00df_18 rfl ?_
    refine Gp_get 0 hmq658813 heq658813 dr_cJ5_ensureCapacityInternal_d00df_19 (gk_J4 D I) (Nat.le_of_ble_eq_true rfl) wr_7_60 rfl ?_
    refine G_aload_n 1 dr_cJ5_ensureCapacityInternal_d00df_22 rfl ?_
    refine G_iload_n 2 dr_cJ5_ensureCapacityInternal_d00df_23 rfl ?_
    refine Gw_callVB (As := [.int p658815]) (gV_ok D I) (cp_658841_AbstractStringBuilder_newCapacity l hl0 D I P658811 F658812 q658813 q658814 p658815 p658816 p658817 f658818 n658819 hmq658813 hmq658814 heq658813 heq658814 bp658815 bp658816 bp658817 bf658818 (by have qa0 : Int32.toInt 0 = 0 := (by decide); omega) (by have qa0 : Int32.toInt 0 = 0 := (by decide); omega) (by have qa0 : Int32.toInt 0 = 0 := (by decide); omega)) dr_cJ5_ensureCapacityInternal_d00df_24 ⟨wr_8_8, wr_1_19, wr_8_11, by decide, rfl, (Nat.le_of_ble_eq_true rfl), (Nat.le_of_ble_eq_true rfl)⟩ wr_8_10 wr_s_1 hmq658813 heq658813 rfl (show 0 + 0 ≤ 1 by first | omega | decide) (show 0 + 0 ≤ (2 * n658819 + 2 + p658815.toInt.toNat) by first | omega | decide) (Nat.le_of_ble_eq_true rfl) (fun r658860 w658861 dc658857 ds658858 hp658859 => ?_) (fun _ _ _ _ _ z => z.elim)
    obtain ⟨o658862, rfl, rfl, hdc, hds, bo658862, x658863, x658864, x658865, ht658866⟩ := hp658859
    change G _ _ _ _ _ _ _ (.int o658862 :: _) _ _ _
    refine G_widen (cs' := 0) (sl' := 0) (by omega) (by omega) ?_
    refine G_aload_n 1 dr_cJ5_ensureCapacityInternal_d00df_27 rfl ?_
    refine Gp_get 1 hmq658813 heq658813 dr_cJ5_ensureCapacityInternal_d00df_28 (gk_J4 D I) (Nat.le_of_ble_eq_true rfl) wr_7_61 rfl ?_
    refine G_ishl dr_cJ5_ensureCapacityInternal_d00df_31 (G_nam fun z658867 hz658867 => ?_)
    have ez658867 : z658867.toInt = o658862.toInt * 1 := gI_shl (k := 0) hz658867 (by decide) bo658862 (by decide) (by decide)
    have bz658867 : gB z658867 1 33554432 := ⟨by omega, by omega⟩
    refine Gw_callS (As := [.ref q658814, .int z658867]) (gV_ok D I) (cp_658876_Arrays_copyOf l hl0 D I P658811 F658812 q658814 z658867 f658818 n658819 hmq658814 heq658814 (gB_w bz658867 (by decide) (by decide)) bf658818 (by have qa0 : Int32.toInt 0 = 0 := (by decide); omega) (by have qa0 : Int32.toInt 0 = 0 := (by decide); omega)) dr_cJ5_ensureCapacityInternal_d00df_32 ⟨wr_8_21, wr_1_30, wr_8_23, by decide, rfl, (Nat.le_of_ble_eq_true rfl), (Nat.le_of_ble_eq_true rfl)⟩ wr_8_22 (show 0 + 1 ≤ 1 by first | omega | decide) (show 0 + z658867.toInt.toNat ≤ (2 * n658819 + 2 + p658815.toInt.toNat) by first | omega | decide) (Nat.le_of_ble_eq_true rfl) (fun r658911 w658912 dc658908 ds658909 hp658910 => ?_) (fun _ _ _ _ _ z => z.elim)
    obtain ⟨P658916, F658917, q658913, f658914, rfl, rfl, hsb658918, hfr658919, he658920, he658921, hm658922, hq658923, hdc, hds, bf658914, ht658915⟩ := hp658910
    have hm658924 : q658813 ∈ P658916 := hsb658918 q658813 hmq658813
    have hm658925 : q658814 ∈ P658916 := hsb658918 q658814 hmq658814
    have hq658926 : q658913 ∉ P658811 := fun z => hq658923 ((rSub_rf (P := P658811)) q658913 z)
    have hsb658927 : rSub P658811 P658916 := rSub_tr (rSub_rf (P := P658811)) hsb658918
    have he658928 : F658917 q658813 = .inr (1, [.ref q658814, .int 0, .int p658816, .int p658817]) := (hfr658919 q658813 hmq658813 nm_n).trans heq658813
    have hfr658929 : rFr [] P658811 F658812 F658917 := rFr_call (rSub_rf (P := P658811)) (rFr_rf (W := []) (P := P658811) (F := F658812)) hfr658919 (fun b hb hn => ⟨nm_n, nm_n⟩)
    change G _ _ _ _ _ _ _ (.ref q658913 :: _) _ _ _
    refine G_widen (cs' := 1) (sl' := z658867.toInt.toNat) (by omega) (by omega) ?_
    refine Gp_put 0 hm658924 he658928 dr_cJ5_ensureCapacityInternal_d00df_35 (gk_J4 D I) (Nat.le_of_ble_eq_true rfl) wr_7_60 rfl rfl rfl (Nat.le_of_ble_eq_true rfl) (fun F658930 e658931 n658932 => ?_)
    have he658933 : F658930 q658814 = .inl (I .byte, n658819, .inl f658818) := (n658932 q658814 (rn_ao he658920 he658928)).trans he658920
    have he658934 : F658930 q658913 = .inl (I .byte, z658867.toInt.toNat, .inl f658914) := (n658932 q658913 (fun h => hq658926 (h ▸ hmq658813))).trans he658921
    have he658935 : F658930 q658813 = .inr (1, [.ref q658913, .int 0, .int p658816, .int p658817]) := e658931
    have hfr658936 : rFr [q658813] P658811 F658812 F658930 := rFr_put hfr658929 n658932
    exact G_vretA dr_cJ5_ensureCapacityInternal_d00df_38 rfl (Nat.le_of_ble_eq_true rfl) (show z658867.toInt.toNat ≤ (2 * n658819 + 2 + p658815.toInt.toNat) by omega) ⟨P658916, F658930, q658913, z658867.toInt.toNat, f658914, rfl, rfl, hsb658927, hfr658936, he658935, he658934, hm658922, (Or.inr hq658926), (Nat.le_of_ble_eq_true rfl), (by omega), bf658914, (by have qa0 : Int32.toInt 0 = 0 := (by decide); omega), (by have qa0 : Int32.toInt 0 = 0 := (by decide); omega), (by have qa0 : Int32.toInt 0 = 0 := (by decide); omega), (by have qa0 : Int32.toInt 0 = 0 := (by decide); omega), (fun R c1 c2 => c2 z658823 z658824 z658825 o658862 z658867 f658914 ez658823 ez658824 ez658825 r658828 bo658862 ht658866 ez658867 ht658915)⟩
/- tr_RAbstractStringBuilder_append2: a.0...count, a.0.value.#, a.0.value.[] -/
def tr_RAbstractStringBuilder_append2 (a1 : Int32) (a0_count : Int32) (a0_value_v : Nat → Int32) (a0_value_n : Nat) (o1 : Int32) (o2 : Nat) (o3 : Nat → Int32) : Prop := ∀ R : (Int32) → (Nat) → (Nat → Int32) → Prop,
  (∀ (x1 : Int32) (x2 : Nat) (x3 : Nat → Int32) (x4 : Int32) (x5 : Int32) (x6 : Nat → Int32), x1.toInt = a0_count.toInt + 1 → tr_RAbstractStringBuilder_ensureCapacityInternal2 x1 a0_value_v a0_value_n x2 x3 → tr_RStringLatin1_canEncode a1 (1 : Int32) → x4.toInt = a0_count.toInt + 1 → x5 = a1.toInt8.toInt32 → x6 = upd x3 a0_count.toNatClampNeg (vp_nar .byte x5) → R x4 x2 x6) →
  R o1 o2 o3
