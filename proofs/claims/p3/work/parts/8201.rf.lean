theorem dr_cJ5_length_8abf5_0 : decode cJ5_length_8abf5 0 = .ok (.aload_n 0, 1) := by decide +kernel
theorem dr_cJ5_length_8abf5_1 : decode cJ5_length_8abf5 1 = .ok (.getfield 79, 3) := by decide +kernel
theorem wr_7_64 : (Jvm.Cond.fieldLink "java/lang/AbstractStringBuilder" (79 : Nat) "java/lang/AbstractStringBuilder" "count" "I") ∈ gw := gw_7 64 rfl rfl
theorem dr_cJ5_length_8abf5_4 : decode cJ5_length_8abf5 4 = .ok (.ireturn, 1) := by decide +kernel
theorem dr_cJ4_length_8abf5_0 : decode cJ4_length_8abf5 0 = .ok (.aload_n 0, 1) := by decide +kernel
theorem dr_cJ4_length_8abf5_1 : decode cJ4_length_8abf5 1 = .ok (.invokespecial 343, 3) := by decide +kernel
theorem wr_8_90 : (Jvm.Cond.methodLink "java/lang/StringBuilder" (343 : Nat) ({ cls := "java/lang/AbstractStringBuilder", name := "length", desc := "()I" } : Jvm.MethodName)) ∈ gw := gw_8 90 rfl rfl
theorem wr_1_19 : (Jvm.Cond.initialized "java/lang/AbstractStringBuilder") ∈ gw := gw_1 19 rfl rfl
theorem wr_8_91 : (Jvm.Cond.code ({ cls := "java/lang/AbstractStringBuilder", name := "length", desc := "()I" } : Jvm.MethodName) prog_21_method_6_code (1 : Nat) (Option.some Jvm.ClassFile.FieldType.int)) ∈ gw := gw_8 91 rfl rfl
theorem wr_8_85 : (Jvm.Cond.instanceMethod ({ cls := "java/lang/AbstractStringBuilder", name := "length", desc := "()I" } : Jvm.MethodName)) ∈ gw := gw_8 85 rfl rfl
theorem wr_8_86 : (Jvm.Cond.sameMethod "java/lang/AbstractStringBuilder" "java/lang/AbstractStringBuilder" "length" "()I") ∈ gw := gw_8 86 rfl rfl
theorem wr_7_73 : (Jvm.Cond.superclass "java/lang/StringBuilder" "java/lang/AbstractStringBuilder") ∈ gw := gw_7 73 rfl rfl
theorem wr_7_44 : (Jvm.Cond.instantiable "java/lang/StringBuilder" (4 : Nat)) ∈ gw := gw_7 44 rfl rfl
theorem dr_cJ4_length_8abf5_4 : decode cJ4_length_8abf5 4 = .ok (.ireturn, 1) := by decide +kernel
theorem dr_cJ0_checkIndex_df160_0 : decode cJ0_checkIndex_df160 0 = .ok (.iload_n 0, 1) := by decide +kernel
theorem dr_cJ0_checkIndex_df160_1 : decode cJ0_checkIndex_df160 1 = .ok (.iload_n 1, 1) := by decide +kernel
theorem dr_cJ0_checkIndex_df160_2 : decode cJ0_checkIndex_df160 2 = .ok (.getstatic 1053, 3) := by decide +kernel
theorem wr_3_81 : (Jvm.Cond.fieldLink "java/lang/String" (1053 : Nat) "jdk/internal/util/Preconditions" "SIOOBE_FORMATTER" "Ljava/util/function/BiFunction;") ∈ gw := gw_3 81 rfl rfl
theorem dr_cJ0_checkIndex_df160_5 : decode cJ0_checkIndex_df160 5 = .ok (.invokestatic 1059, 3) := by decide +kernel
theorem wr_3_83 : (Jvm.Cond.methodLink "java/lang/String" (1059 : Nat) ({ cls := "jdk/internal/util/Preconditions", name := "checkIndex", desc := "(IILjava/util/function/BiFunction;)I" } : Jvm.MethodName)) ∈ gw := gw_3 83 rfl rfl
theorem dr_cJ0_checkIndex_df160_8 : decode cJ0_checkIndex_df160 8 = .ok (.pop, 1) := by decide +kernel
theorem dr_cJ0_checkIndex_df160_9 : decode cJ0_checkIndex_df160 9 = .ok (.return_, 1) := by decide +kernel
theorem dr_cJ5_charAt_5068e_0 : decode cJ5_charAt_5068e 0 = .ok (.aload_n 0, 1) := by decide +kernel
theorem dr_cJ5_charAt_5068e_1 : decode cJ5_charAt_5068e 1 = .ok (.getfield 22, 3) := by decide +kernel
theorem wr_7_61 : (Jvm.Cond.fieldLink "java/lang/AbstractStringBuilder" (22 : Nat) "java/lang/AbstractStringBuilder" "coder" "B") ∈ gw := gw_7 61 rfl rfl
theorem dr_cJ5_charAt_5068e_4 : decode cJ5_charAt_5068e 4 = .ok (.istore_n 2, 1) := by decide +kernel
theorem dr_cJ5_charAt_5068e_5 : decode cJ5_charAt_5068e 5 = .ok (.aload_n 0, 1) := by decide +kernel
theorem dr_cJ5_charAt_5068e_6 : decode cJ5_charAt_5068e 6 = .ok (.getfield 15, 3) := by decide +kernel
theorem wr_7_60 : (Jvm.Cond.fieldLink "java/lang/AbstractStringBuilder" (15 : Nat) "java/lang/AbstractStringBuilder" "value" "[B") ∈ gw := gw_7 60 rfl rfl
theorem dr_cJ5_charAt_5068e_9 : decode cJ5_charAt_5068e 9 = .ok (.astore_n 3, 1) := by decide +kernel
theorem dr_cJ5_charAt_5068e_10 : decode cJ5_charAt_5068e 10 = .ok (.aload_n 0, 1) := by decide +kernel
theorem dr_cJ5_charAt_5068e_11 : decode cJ5_charAt_5068e 11 = .ok (.getfield 79, 3) := by decide +kernel
theorem dr_cJ5_charAt_5068e_14 : decode cJ5_charAt_5068e 14 = .ok (.aload_n 3, 1) := by decide +kernel
theorem dr_cJ5_charAt_5068e_15 : decode cJ5_charAt_5068e 15 = .ok (.arraylength, 1) := by decide +kernel
theorem dr_cJ5_charAt_5068e_16 : decode cJ5_charAt_5068e 16 = .ok (.iload_n 2, 1) := by decide +kernel
theorem dr_cJ5_charAt_5068e_17 : decode cJ5_charAt_5068e 17 = .ok (.ishr, 1) := by decide +kernel
theorem dr_cJ5_charAt_5068e_18 : decode cJ5_charAt_5068e 18 = .ok (.invokestatic 138, 3) := by decide +kernel
theorem wr_11_216 : (Jvm.Cond.methodLink "java/lang/AbstractStringBuilder" (138 : Nat) ({ cls := "java/lang/Math", name := "min", desc := "(II)I" } : Jvm.MethodName)) ∈ gw := gw_11 216 rfl rfl
theorem dr_cJ5_charAt_5068e_21 : decode cJ5_charAt_5068e 21 = .ok (.istore 4, 2) := by decide +kernel
theorem dr_cJ5_charAt_5068e_23 : decode cJ5_charAt_5068e 23 = .ok (.iload_n 1, 1) := by decide +kernel
theorem dr_cJ5_charAt_5068e_24 : decode cJ5_charAt_5068e 24 = .ok (.iload 4, 2) := by decide +kernel
theorem dr_cJ5_charAt_5068e_26 : decode cJ5_charAt_5068e 26 = .ok (.invokestatic 144, 3) := by decide +kernel
theorem wr_11_217 : (Jvm.Cond.methodLink "java/lang/AbstractStringBuilder" (144 : Nat) ({ cls := "java/lang/String", name := "checkIndex", desc := "(II)V" } : Jvm.MethodName)) ∈ gw := gw_11 217 rfl rfl
theorem wr_1_21 : (Jvm.Cond.initialized "java/lang/String") ∈ gw := gw_1 21 rfl rfl
theorem wr_3_80 : (Jvm.Cond.code ({ cls := "java/lang/String", name := "checkIndex", desc := "(II)V" } : Jvm.MethodName) prog_34_method_155_code (2 : Nat) (Option.none : Option Jvm.ClassFile.FieldType)) ∈ gw := gw_3 80 rfl rfl
theorem wr_3_79 : (Jvm.Cond.static ({ cls := "java/lang/String", name := "checkIndex", desc := "(II)V" } : Jvm.MethodName)) ∈ gw := gw_3 79 rfl rfl
theorem dr_cJ5_charAt_5068e_29 : decode cJ5_charAt_5068e 29 = .ok (.iload_n 2, 1) := by decide +kernel
theorem dr_cJ5_charAt_5068e_30 : decode cJ5_charAt_5068e 30 = .ok (.ifCond .ne 12, 3) := by decide +kernel
theorem dr_cJ5_charAt_5068e_33 : decode cJ5_charAt_5068e 33 = .ok (.aload_n 3, 1) := by decide +kernel
theorem dr_cJ5_charAt_5068e_34 : decode cJ5_charAt_5068e 34 = .ok (.iload_n 1, 1) := by decide +kernel
theorem dr_cJ5_charAt_5068e_35 : decode cJ5_charAt_5068e 35 = .ok (.baload, 1) := by decide +kernel
theorem dr_cJ5_charAt_5068e_36 : decode cJ5_charAt_5068e 36 = .ok (.sipush 255, 3) := by decide +kernel
theorem dr_cJ5_charAt_5068e_39 : decode cJ5_charAt_5068e 39 = .ok (.iand, 1) := by decide +kernel
theorem dr_cJ5_charAt_5068e_40 : decode cJ5_charAt_5068e 40 = .ok (.i2c, 1) := by decide +kernel
theorem dr_cJ5_charAt_5068e_41 : decode cJ5_charAt_5068e 41 = .ok (.ireturn, 1) := by decide +kernel
theorem dr_cJ4_charAt_5068e_0 : decode cJ4_charAt_5068e 0 = .ok (.aload_n 0, 1) := by decide +kernel
theorem dr_cJ4_charAt_5068e_1 : decode cJ4_charAt_5068e 1 = .ok (.iload_n 1, 1) := by decide +kernel
theorem dr_cJ4_charAt_5068e_2 : decode cJ4_charAt_5068e 2 = .ok (.invokespecial 329, 3) := by decide +kernel
theorem wr_11_213 : (Jvm.Cond.methodLink "java/lang/StringBuilder" (329 : Nat) ({ cls := "java/lang/AbstractStringBuilder", name := "charAt", desc := "(I)C" } : Jvm.MethodName)) ∈ gw := gw_11 213 rfl rfl
theorem wr_11_215 : (Jvm.Cond.code ({ cls := "java/lang/AbstractStringBuilder", name := "charAt", desc := "(I)C" } : Jvm.MethodName) prog_21_method_14_code (5 : Nat) (Option.some Jvm.ClassFile.FieldType.char)) ∈ gw := gw_11 215 rfl rfl
theorem wr_11_214 : (Jvm.Cond.instanceMethod ({ cls := "java/lang/AbstractStringBuilder", name := "charAt", desc := "(I)C" } : Jvm.MethodName)) ∈ gw := gw_11 214 rfl rfl
theorem wr_11_235 : (Jvm.Cond.sameMethod "java/lang/AbstractStringBuilder" "java/lang/AbstractStringBuilder" "charAt" "(I)C") ∈ gw := gw_11 235 rfl rfl
theorem dr_cJ4_charAt_5068e_5 : decode cJ4_charAt_5068e 5 = .ok (.ireturn, 1) := by decide +kernel
theorem dr_cJ5_ensureCapacityInternal_d00df_0 : decode cJ5_ensureCapacityInternal_d00df 0 = .ok (.aload_n 0, 1) := by decide +kernel
theorem dr_cJ5_ensureCapacityInternal_d00df_1 : decode cJ5_ensureCapacityInternal_d00df 1 = .ok (.getfield 15, 3) := by decide +kernel
theorem dr_cJ5_ensureCapacityInternal_d00df_4 : decode cJ5_ensureCapacityInternal_d00df 4 = .ok (.arraylength, 1) := by decide +kernel
theorem dr_cJ5_ensureCapacityInternal_d00df_5 : decode cJ5_ensureCapacityInternal_d00df 5 = .ok (.aload_n 0, 1) := by decide +kernel
theorem dr_cJ5_ensureCapacityInternal_d00df_6 : decode cJ5_ensureCapacityInternal_d00df 6 = .ok (.getfield 22, 3) := by decide +kernel
theorem dr_cJ5_ensureCapacityInternal_d00df_9 : decode cJ5_ensureCapacityInternal_d00df 9 = .ok (.ishr, 1) := by decide +kernel
theorem dr_cJ5_ensureCapacityInternal_d00df_10 : decode cJ5_ensureCapacityInternal_d00df 10 = .ok (.istore_n 2, 1) := by decide +kernel
theorem dr_cJ5_ensureCapacityInternal_d00df_11 : decode cJ5_ensureCapacityInternal_d00df 11 = .ok (.iload_n 1, 1) := by decide +kernel
theorem dr_cJ5_ensureCapacityInternal_d00df_12 : decode cJ5_ensureCapacityInternal_d00df 12 = .ok (.iload_n 2, 1) := by decide +kernel
theorem dr_cJ5_ensureCapacityInternal_d00df_13 : decode cJ5_ensureCapacityInternal_d00df 13 = .ok (.isub, 1) := by decide +kernel
theorem dr_cJ5_ensureCapacityInternal_d00df_14 : decode cJ5_ensureCapacityInternal_d00df 14 = .ok (.ifCond .le 24, 3) := by decide +kernel
theorem dr_cJ5_ensureCapacityInternal_d00df_38 : decode cJ5_ensureCapacityInternal_d00df 38 = .ok (.return_, 1) := by decide +kernel
theorem dr_cJ5_isLatin1_aae02_0 : decode cJ5_isLatin1_aae02 0 = .ok (.getstatic 18, 3) := by decide +kernel
theorem wr_7_52 : (Jvm.Cond.fieldLink "java/lang/AbstractStringBuilder" (18 : Nat) "java/lang/String" "COMPACT_STRINGS" "Z") ∈ gw := gw_7 52 rfl rfl
theorem dr_cJ5_isLatin1_aae02_3 : decode cJ5_isLatin1_aae02 3 = .ok (.ifCond .eq 14, 3) := by decide +kernel
theorem dr_cJ5_isLatin1_aae02_6 : decode cJ5_isLatin1_aae02 6 = .ok (.aload_n 0, 1) := by decide +kernel
theorem dr_cJ5_isLatin1_aae02_7 : decode cJ5_isLatin1_aae02 7 = .ok (.getfield 22, 3) := by decide +kernel
theorem dr_cJ5_isLatin1_aae02_10 : decode cJ5_isLatin1_aae02 10 = .ok (.ifCond .ne 7, 3) := by decide +kernel
theorem dr_cJ5_isLatin1_aae02_13 : decode cJ5_isLatin1_aae02 13 = .ok (.iconst 1, 1) := by decide +kernel
theorem dr_cJ5_isLatin1_aae02_14 : decode cJ5_isLatin1_aae02 14 = .ok (.goto 4, 3) := by decide +kernel
theorem dr_cJ5_isLatin1_aae02_18 : decode cJ5_isLatin1_aae02 18 = .ok (.ireturn, 1) := by decide +kernel
theorem dr_cJ1_canEncode_fc78d_0 : decode cJ1_canEncode_fc78d 0 = .ok (.iload_n 0, 1) := by decide +kernel
theorem dr_cJ1_canEncode_fc78d_1 : decode cJ1_canEncode_fc78d 1 = .ok (.sipush 255, 3) := by decide +kernel
theorem dr_cJ1_canEncode_fc78d_4 : decode cJ1_canEncode_fc78d 4 = .ok (.if_icmp .gt 7, 3) := by decide +kernel
theorem dr_cJ1_canEncode_fc78d_11 : decode cJ1_canEncode_fc78d 11 = .ok (.iconst 0, 1) := by decide +kernel
theorem dr_cJ1_canEncode_fc78d_12 : decode cJ1_canEncode_fc78d 12 = .ok (.ireturn, 1) := by decide +kernel
theorem dr_cJ1_canEncode_fc78d_7 : decode cJ1_canEncode_fc78d 7 = .ok (.iconst 1, 1) := by decide +kernel
theorem dr_cJ1_canEncode_fc78d_8 : decode cJ1_canEncode_fc78d 8 = .ok (.goto 4, 3) := by decide +kernel
theorem dr_cJ5_append_3fe6f_0 : decode cJ5_append_3fe6f 0 = .ok (.aload_n 0, 1) := by decide +kernel
theorem dr_cJ5_append_3fe6f_1 : decode cJ5_append_3fe6f 1 = .ok (.aload_n 0, 1) := by decide +kernel
theorem dr_cJ5_append_3fe6f_2 : decode cJ5_append_3fe6f 2 = .ok (.getfield 79, 3) := by decide +kernel
theorem dr_cJ5_append_3fe6f_5 : decode cJ5_append_3fe6f 5 = .ok (.iconst 1, 1) := by decide +kernel
theorem dr_cJ5_append_3fe6f_6 : decode cJ5_append_3fe6f 6 = .ok (.iadd, 1) := by decide +kernel
theorem dr_cJ5_append_3fe6f_7 : decode cJ5_append_3fe6f 7 = .ok (.invokevirtual 100, 3) := by decide +kernel
theorem wr_8_4 : (Jvm.Cond.methodLink "java/lang/AbstractStringBuilder" (100 : Nat) ({ cls := "java/lang/AbstractStringBuilder", name := "ensureCapacityInternal", desc := "(I)V" } : Jvm.MethodName)) ∈ gw := gw_8 4 rfl rfl
theorem wr_8_7 : (Jvm.Cond.code ({ cls := "java/lang/AbstractStringBuilder", name := "ensureCapacityInternal", desc := "(I)V" } : Jvm.MethodName) prog_21_method_9_code (3 : Nat) (Option.none : Option Jvm.ClassFile.FieldType)) ∈ gw := gw_8 7 rfl rfl
theorem wr_8_6 : (Jvm.Cond.instanceMethod ({ cls := "java/lang/AbstractStringBuilder", name := "ensureCapacityInternal", desc := "(I)V" } : Jvm.MethodName)) ∈ gw := gw_8 6 rfl rfl
theorem wr_s_0 : Cond.selects "java/lang/StringBuilder" ⟨"java/lang/AbstractStringBuilder", "ensureCapacityInternal", "(I)V"⟩ ⟨"java/lang/AbstractStringBuilder", "ensureCapacityInternal", "(I)V"⟩ ∈ gw := gw_s _ 0 rfl rfl rfl
theorem dr_cJ5_append_3fe6f_10 : decode cJ5_append_3fe6f 10 = .ok (.aload_n 0, 1) := by decide +kernel
theorem dr_cJ5_append_3fe6f_11 : decode cJ5_append_3fe6f 11 = .ok (.invokevirtual 83, 3) := by decide +kernel
theorem wr_8_33 : (Jvm.Cond.methodLink "java/lang/AbstractStringBuilder" (83 : Nat) ({ cls := "java/lang/AbstractStringBuilder", name := "isLatin1", desc := "()Z" } : Jvm.MethodName)) ∈ gw := gw_8 33 rfl rfl
theorem wr_8_37 : (Jvm.Cond.code ({ cls := "java/lang/AbstractStringBuilder", name := "isLatin1", desc := "()Z" } : Jvm.MethodName) prog_21_method_68_code (1 : Nat) (Option.some Jvm.ClassFile.FieldType.boolean)) ∈ gw := gw_8 37 rfl rfl
theorem wr_8_34 : (Jvm.Cond.instanceMethod ({ cls := "java/lang/AbstractStringBuilder", name := "isLatin1", desc := "()Z" } : Jvm.MethodName)) ∈ gw := gw_8 34 rfl rfl
theorem wr_8_36 : (Jvm.Cond.selects "java/lang/StringBuilder" ({ cls := "java/lang/AbstractStringBuilder", name := "isLatin1", desc := "()Z" } : Jvm.MethodName) ({ cls := "java/lang/AbstractStringBuilder", name := "isLatin1", desc := "()Z" } : Jvm.MethodName)) ∈ gw := gw_8 36 rfl rfl
theorem dr_cJ5_append_3fe6f_14 : decode cJ5_append_3fe6f 14 = .ok (.ifCond .eq 31, 3) := by decide +kernel
theorem dr_cJ5_append_3fe6f_17 : decode cJ5_append_3fe6f 17 = .ok (.iload_n 1, 1) := by decide +kernel
theorem dr_cJ5_append_3fe6f_18 : decode cJ5_append_3fe6f 18 = .ok (.invokestatic 191, 3) := by decide +kernel
theorem wr_8_38 : (Jvm.Cond.methodLink "java/lang/AbstractStringBuilder" (191 : Nat) ({ cls := "java/lang/StringLatin1", name := "canEncode", desc := "(C)Z" } : Jvm.MethodName)) ∈ gw := gw_8 38 rfl rfl
theorem wr_1_28 : (Jvm.Cond.initialized "java/lang/StringLatin1") ∈ gw := gw_1 28 rfl rfl
theorem wr_8_40 : (Jvm.Cond.code ({ cls := "java/lang/StringLatin1", name := "canEncode", desc := "(C)Z" } : Jvm.MethodName) prog_37_method_3_code (1 : Nat) (Option.some Jvm.ClassFile.FieldType.boolean)) ∈ gw := gw_8 40 rfl rfl
theorem wr_8_39 : (Jvm.Cond.static ({ cls := "java/lang/StringLatin1", name := "canEncode", desc := "(C)Z" } : Jvm.MethodName)) ∈ gw := gw_8 39 rfl rfl
theorem dr_cJ5_append_3fe6f_21 : decode cJ5_append_3fe6f 21 = .ok (.ifCond .eq 24, 3) := by decide +kernel
theorem dr_cJ5_append_3fe6f_24 : decode cJ5_append_3fe6f 24 = .ok (.aload_n 0, 1) := by decide +kernel
theorem dr_cJ5_append_3fe6f_25 : decode cJ5_append_3fe6f 25 = .ok (.getfield 15, 3) := by decide +kernel
theorem dr_cJ5_append_3fe6f_28 : decode cJ5_append_3fe6f 28 = .ok (.aload_n 0, 1) := by decide +kernel
theorem dr_cJ5_append_3fe6f_29 : decode cJ5_append_3fe6f 29 = .ok (.dup, 1) := by decide +kernel
theorem dr_cJ5_append_3fe6f_30 : decode cJ5_append_3fe6f 30 = .ok (.getfield 79, 3) := by decide +kernel
theorem dr_cJ5_append_3fe6f_33 : decode cJ5_append_3fe6f 33 = .ok (.dup_x1, 1) := by decide +kernel
theorem dr_cJ5_append_3fe6f_34 : decode cJ5_append_3fe6f 34 = .ok (.iconst 1, 1) := by decide +kernel
theorem dr_cJ5_append_3fe6f_35 : decode cJ5_append_3fe6f 35 = .ok (.iadd, 1) := by decide +kernel
theorem dr_cJ5_append_3fe6f_36 : decode cJ5_append_3fe6f 36 = .ok (.putfield 79, 3) := by decide +kernel
theorem dr_cJ5_append_3fe6f_39 : decode cJ5_append_3fe6f 39 = .ok (.iload_n 1, 1) := by decide +kernel
theorem dr_cJ5_append_3fe6f_40 : decode cJ5_append_3fe6f 40 = .ok (.i2b, 1) := by decide +kernel
theorem dr_cJ5_append_3fe6f_41 : decode cJ5_append_3fe6f 41 = .ok (.bastore, 1) := by decide +kernel
theorem dr_cJ5_append_3fe6f_42 : decode cJ5_append_3fe6f 42 = .ok (.goto 33, 3) := by decide +kernel
theorem dr_cJ5_append_3fe6f_75 : decode cJ5_append_3fe6f 75 = .ok (.aload_n 0, 1) := by decide +kernel
theorem dr_cJ5_append_3fe6f_76 : decode cJ5_append_3fe6f 76 = .ok (.areturn, 1) := by decide +kernel
theorem dr_cJ4_append_cf468_0 : decode cJ4_append_cf468 0 = .ok (.aload_n 0, 1) := by decide +kernel
theorem dr_cJ4_append_cf468_1 : decode cJ4_append_cf468 1 = .ok (.iload_n 1, 1) := by decide +kernel
theorem dr_cJ4_append_cf468_2 : decode cJ4_append_cf468 2 = .ok (.invokespecial 50, 3) := by decide +kernel
theorem wr_8_1 : (Jvm.Cond.methodLink "java/lang/StringBuilder" (50 : Nat) ({ cls := "java/lang/AbstractStringBuilder", name := "append", desc := "(C)Ljava/lang/AbstractStringBuilder;" } : Jvm.MethodName)) ∈ gw := gw_8 1 rfl rfl
theorem wr_8_3 : (Jvm.Cond.code ({ cls := "java/lang/AbstractStringBuilder", name := "append", desc := "(C)Ljava/lang/AbstractStringBuilder;" } : Jvm.MethodName) prog_21_method_31_code (2 : Nat) (Option.some (Jvm.ClassFile.FieldType.object "java/lang/AbstractStringBuilder"))) ∈ gw := gw_8 3 rfl rfl
theorem wr_8_2 : (Jvm.Cond.instanceMethod ({ cls := "java/lang/AbstractStringBuilder", name := "append", desc := "(C)Ljava/lang/AbstractStringBuilder;" } : Jvm.MethodName)) ∈ gw := gw_8 2 rfl rfl
theorem wr_11_224 : (Jvm.Cond.sameMethod "java/lang/AbstractStringBuilder" "java/lang/AbstractStringBuilder" "append" "(C)Ljava/lang/AbstractStringBuilder;") ∈ gw := gw_11 224 rfl rfl
theorem dr_cJ4_append_cf468_5 : decode cJ4_append_cf468 5 = .ok (.pop, 1) := by decide +kernel
theorem dr_cJ4_append_cf468_6 : decode cJ4_append_cf468 6 = .ok (.aload_n 0, 1) := by decide +kernel
theorem dr_cJ4_append_cf468_7 : decode cJ4_append_cf468 7 = .ok (.areturn, 1) := by decide +kernel
theorem dr_cJ5_newCapacity_0f7a4_0 : decode cJ5_newCapacity_0f7a4 0 = .ok (.aload_n 0, 1) := by decide +kernel
theorem dr_cJ5_newCapacity_0f7a4_1 : decode cJ5_newCapacity_0f7a4 1 = .ok (.getfield 15, 3) := by decide +kernel
theorem dr_cJ5_newCapacity_0f7a4_4 : decode cJ5_newCapacity_0f7a4 4 = .ok (.arraylength, 1) := by decide +kernel
theorem dr_cJ5_newCapacity_0f7a4_5 : decode cJ5_newCapacity_0f7a4 5 = .ok (.istore_n 2, 1) := by decide +kernel
theorem dr_cJ5_newCapacity_0f7a4_6 : decode cJ5_newCapacity_0f7a4 6 = .ok (.iload_n 1, 1) := by decide +kernel
theorem dr_cJ5_newCapacity_0f7a4_7 : decode cJ5_newCapacity_0f7a4 7 = .ok (.aload_n 0, 1) := by decide +kernel
theorem dr_cJ5_newCapacity_0f7a4_8 : decode cJ5_newCapacity_0f7a4 8 = .ok (.getfield 22, 3) := by decide +kernel
theorem dr_cJ5_newCapacity_0f7a4_11 : decode cJ5_newCapacity_0f7a4 11 = .ok (.ishl, 1) := by decide +kernel
theorem dr_cJ5_newCapacity_0f7a4_12 : decode cJ5_newCapacity_0f7a4 12 = .ok (.istore_n 3, 1) := by decide +kernel
theorem dr_cJ5_newCapacity_0f7a4_13 : decode cJ5_newCapacity_0f7a4 13 = .ok (.iload_n 3, 1) := by decide +kernel
theorem dr_cJ5_newCapacity_0f7a4_14 : decode cJ5_newCapacity_0f7a4 14 = .ok (.iload_n 2, 1) := by decide +kernel
theorem dr_cJ5_newCapacity_0f7a4_15 : decode cJ5_newCapacity_0f7a4 15 = .ok (.isub, 1) := by decide +kernel
theorem dr_cJ5_newCapacity_0f7a4_16 : decode cJ5_newCapacity_0f7a4 16 = .ok (.istore 4, 2) := by decide +kernel
theorem dr_cJ5_newCapacity_0f7a4_18 : decode cJ5_newCapacity_0f7a4 18 = .ok (.iload_n 2, 1) := by decide +kernel
theorem dr_cJ5_newCapacity_0f7a4_19 : decode cJ5_newCapacity_0f7a4 19 = .ok (.iload 4, 2) := by decide +kernel
theorem dr_cJ5_newCapacity_0f7a4_21 : decode cJ5_newCapacity_0f7a4 21 = .ok (.iload_n 2, 1) := by decide +kernel
theorem dr_cJ5_newCapacity_0f7a4_22 : decode cJ5_newCapacity_0f7a4 22 = .ok (.iconst 2, 1) := by decide +kernel
theorem dr_cJ5_newCapacity_0f7a4_23 : decode cJ5_newCapacity_0f7a4 23 = .ok (.aload_n 0, 1) := by decide +kernel
theorem dr_cJ5_newCapacity_0f7a4_24 : decode cJ5_newCapacity_0f7a4 24 = .ok (.getfield 22, 3) := by decide +kernel
theorem dr_cJ5_newCapacity_0f7a4_27 : decode cJ5_newCapacity_0f7a4 27 = .ok (.ishl, 1) := by decide +kernel
theorem dr_cJ5_newCapacity_0f7a4_28 : decode cJ5_newCapacity_0f7a4 28 = .ok (.iadd, 1) := by decide +kernel
theorem dr_cJ5_newCapacity_0f7a4_29 : decode cJ5_newCapacity_0f7a4 29 = .ok (.invokestatic 114, 3) := by decide +kernel
theorem wr_8_12 : (Jvm.Cond.methodLink "java/lang/AbstractStringBuilder" (114 : Nat) ({ cls := "jdk/internal/util/ArraysSupport", name := "newLength", desc := "(III)I" } : Jvm.MethodName)) ∈ gw := gw_8 12 rfl rfl
theorem dr_cJ5_newCapacity_0f7a4_32 : decode cJ5_newCapacity_0f7a4 32 = .ok (.istore 5, 2) := by decide +kernel
theorem dr_cJ5_newCapacity_0f7a4_34 : decode cJ5_newCapacity_0f7a4 34 = .ok (.iload 5, 2) := by decide +kernel
theorem dr_cJ5_newCapacity_0f7a4_36 : decode cJ5_newCapacity_0f7a4 36 = .ok (.ldc 39, 2) := by decide +kernel
theorem wr_8_20 : (Jvm.Cond.constant "java/lang/AbstractStringBuilder" (39 : Nat) (2147483647 : Int32)) ∈ gw := gw_8 20 rfl rfl
theorem dr_cJ5_newCapacity_0f7a4_38 : decode cJ5_newCapacity_0f7a4 38 = .ok (.if_icmp .ne 13, 3) := by decide +kernel
theorem dr_cJ5_newCapacity_0f7a4_51 : decode cJ5_newCapacity_0f7a4 51 = .ok (.iload 5, 2) := by decide +kernel
theorem dr_cJ5_newCapacity_0f7a4_53 : decode cJ5_newCapacity_0f7a4 53 = .ok (.aload_n 0, 1) := by decide +kernel
theorem dr_cJ5_newCapacity_0f7a4_54 : decode cJ5_newCapacity_0f7a4 54 = .ok (.getfield 22, 3) := by decide +kernel
theorem dr_cJ5_newCapacity_0f7a4_57 : decode cJ5_newCapacity_0f7a4 57 = .ok (.ishr, 1) := by decide +kernel
theorem dr_cJ5_newCapacity_0f7a4_58 : decode cJ5_newCapacity_0f7a4 58 = .ok (.ireturn, 1) := by decide +kernel
theorem dr_cJ7_copyOf_9075b_0 : decode cJ7_copyOf_9075b 0 = .ok (.iload_n 1, 1) := by decide +kernel
theorem dr_cJ7_copyOf_9075b_1 : decode cJ7_copyOf_9075b 1 = .ok (.aload_n 0, 1) := by decide +kernel
theorem dr_cJ7_copyOf_9075b_2 : decode cJ7_copyOf_9075b 2 = .ok (.arraylength, 1) := by decide +kernel
theorem dr_cJ7_copyOf_9075b_3 : decode cJ7_copyOf_9075b 3 = .ok (.if_icmp .ne 11, 3) := by decide +kernel
theorem dr_cJ7_copyOf_9075b_14 : decode cJ7_copyOf_9075b 14 = .ok (.iload_n 1, 1) := by decide +kernel
theorem dr_cJ7_copyOf_9075b_15 : decode cJ7_copyOf_9075b 15 = .ok (.newarray .byte, 2) := by decide +kernel
theorem wr_1_66 : (Jvm.Cond.arrayClass Jvm.ClassFile.FieldType.byte) ∈ gw := gw_1 66 rfl rfl
theorem dr_cJ7_copyOf_9075b_17 : decode cJ7_copyOf_9075b 17 = .ok (.astore_n 2, 1) := by decide +kernel
theorem dr_cJ7_copyOf_9075b_18 : decode cJ7_copyOf_9075b 18 = .ok (.aload_n 0, 1) := by decide +kernel
theorem dr_cJ7_copyOf_9075b_19 : decode cJ7_copyOf_9075b 19 = .ok (.iconst 0, 1) := by decide +kernel
theorem dr_cJ7_copyOf_9075b_20 : decode cJ7_copyOf_9075b 20 = .ok (.aload_n 2, 1) := by decide +kernel
theorem dr_cJ7_copyOf_9075b_21 : decode cJ7_copyOf_9075b 21 = .ok (.iconst 0, 1) := by decide +kernel
theorem dr_cJ7_copyOf_9075b_22 : decode cJ7_copyOf_9075b 22 = .ok (.aload_n 0, 1) := by decide +kernel
theorem dr_cJ7_copyOf_9075b_23 : decode cJ7_copyOf_9075b 23 = .ok (.arraylength, 1) := by decide +kernel
theorem dr_cJ7_copyOf_9075b_24 : decode cJ7_copyOf_9075b 24 = .ok (.iload_n 1, 1) := by decide +kernel
theorem dr_cJ7_copyOf_9075b_25 : decode cJ7_copyOf_9075b 25 = .ok (.invokestatic 304, 3) := by decide +kernel
theorem dr_cJ7_copyOf_9075b_28 : decode cJ7_copyOf_9075b 28 = .ok (.invokestatic 150, 3) := by decide +kernel
theorem dr_cJ7_copyOf_9075b_31 : decode cJ7_copyOf_9075b 31 = .ok (.aload_n 2, 1) := by decide +kernel
theorem dr_cJ7_copyOf_9075b_32 : decode cJ7_copyOf_9075b 32 = .ok (.areturn, 1) := by decide +kernel
theorem dr_cJ5_ensureCapacityInternal_d00df_17 : decode cJ5_ensureCapacityInternal_d00df 17 = .ok (.aload_n 0, 1) := by decide +kernel
theorem dr_cJ5_ensureCapacityInternal_d00df_18 : decode cJ5_ensureCapacityInternal_d00df 18 = .ok (.aload_n 0, 1) := by decide +kernel
theorem dr_cJ5_ensureCapacityInternal_d00df_19 : decode cJ5_ensureCapacityInternal_d00df 19 = .ok (.getfield 15, 3) := by decide +kernel
theorem dr_cJ5_ensureCapacityInternal_d00df_22 : decode cJ5_ensureCapacityInternal_d00df 22 = .ok (.aload_n 0, 1) := by decide +kernel
theorem dr_cJ5_ensureCapacityInternal_d00df_23 : decode cJ5_ensureCapacityInternal_d00df 23 = .ok (.iload_n 1, 1) := by decide +kernel
theorem dr_cJ5_ensureCapacityInternal_d00df_24 : decode cJ5_ensureCapacityInternal_d00df 24 = .ok (.invokevirtual 104, 3) := by decide +kernel
theorem wr_8_8 : (Jvm.Cond.methodLink "java/lang/AbstractStringBuilder" (104 : Nat) ({ cls := "java/lang/AbstractStringBuilder", name := "newCapacity", desc := "(I)I" } : Jvm.MethodName)) ∈ gw := gw_8 8 rfl rfl
theorem wr_8_11 : (Jvm.Cond.code ({ cls := "java/lang/AbstractStringBuilder", name := "newCapacity", desc := "(I)I" } : Jvm.MethodName) prog_21_method_10_code (6 : Nat) (Option.some Jvm.ClassFile.FieldType.int)) ∈ gw := gw_8 11 rfl rfl
theorem wr_8_10 : (Jvm.Cond.instanceMethod ({ cls := "java/lang/AbstractStringBuilder", name := "newCapacity", desc := "(I)I" } : Jvm.MethodName)) ∈ gw := gw_8 10 rfl rfl
theorem wr_s_1 : Cond.selects "java/lang/StringBuilder" ⟨"java/lang/AbstractStringBuilder", "newCapacity", "(I)I"⟩ ⟨"java/lang/AbstractStringBuilder", "newCapacity", "(I)I"⟩ ∈ gw := gw_s _ 1 rfl rfl rfl
theorem dr_cJ5_ensureCapacityInternal_d00df_27 : decode cJ5_ensureCapacityInternal_d00df 27 = .ok (.aload_n 0, 1) := by decide +kernel
theorem dr_cJ5_ensureCapacityInternal_d00df_28 : decode cJ5_ensureCapacityInternal_d00df 28 = .ok (.getfield 22, 3) := by decide +kernel
theorem dr_cJ5_ensureCapacityInternal_d00df_31 : decode cJ5_ensureCapacityInternal_d00df 31 = .ok (.ishl, 1) := by decide +kernel
theorem dr_cJ5_ensureCapacityInternal_d00df_32 : decode cJ5_ensureCapacityInternal_d00df 32 = .ok (.invokestatic 108, 3) := by decide +kernel
theorem wr_8_21 : (Jvm.Cond.methodLink "java/lang/AbstractStringBuilder" (108 : Nat) ({ cls := "java/util/Arrays", name := "copyOf", desc := "([BI)[B" } : Jvm.MethodName)) ∈ gw := gw_8 21 rfl rfl
theorem wr_8_23 : (Jvm.Cond.code ({ cls := "java/util/Arrays", name := "copyOf", desc := "([BI)[B" } : Jvm.MethodName) prog_44_method_121_code (3 : Nat) (Option.some (Jvm.ClassFile.FieldType.array Jvm.ClassFile.FieldType.byte))) ∈ gw := gw_8 23 rfl rfl
theorem wr_8_22 : (Jvm.Cond.static ({ cls := "java/util/Arrays", name := "copyOf", desc := "([BI)[B" } : Jvm.MethodName)) ∈ gw := gw_8 22 rfl rfl
theorem dr_cJ5_ensureCapacityInternal_d00df_35 : decode cJ5_ensureCapacityInternal_d00df 35 = .ok (.putfield 15, 3) := by decide +kernel
abbrev ky_640010_AbstractStringBuilder_length : gKey := (cJ5_length_8abf5, 1, "java/lang/AbstractStringBuilder", (some FieldType.int), [], "length", fun _ _ => True)
def pp_640010_AbstractStringBuilder_length (D : va_G) (I : FieldType → ClassId) (P640001 : List Nat) (F640002 : Nat → va_E) (q640003 : Nat) (q640004 : Nat) (p640005 : Int32) (p640006 : Int32) (f640007 : Nat → Int32) (n640008 : Nat) : Option Value → va_W → Nat → Nat → Prop := fun r w dc ds => r = some (.int p640006) ∧ w = va_pl P640001 F640002 ∧ dc ≤ 0 ∧ ds ≤ 0
set_option maxRecDepth 100000 in
set_option maxHeartbeats 4000000 in
theorem cp_640010_AbstractStringBuilder_length (l : Launch) (hl0 : l.stackTraces = false) (D : va_G) (I : FieldType → ClassId) (P640001 : List Nat) (F640002 : Nat → va_E) (q640003 : Nat) (q640004 : Nat) (p640005 : Int32) (p640006 : Int32) (f640007 : Nat → Int32) (n640008 : Nat) (hmq640003 : q640003 ∈ P640001) (hmq640004 : q640004 ∈ P640001) (heq640003 : F640002 q640003 = .inr (1, [.ref q640004, .int 0, .int p640005, .int p640006])) (heq640004 : F640002 q640004 = .inl (I .byte, n640008, .inl f640007)) (bp640005 : gB p640005 0 1) (bp640006 : gB p640006 0 16777216) (bf640007 : gF f640007 (-128) 127) (x640009 : ((n640008 : Int) ≤ 16777216)) : CtA (gV D I) l yJ5_length_8abf5 cJ5_length_8abf5 1 (some FieldType.int) 0 0 0 0 [.ref q640003] (va_pl P640001 F640002) (pp_640010_AbstractStringBuilder_length D I P640001 F640002 q640003 q640004 p640005 p640006 f640007 n640008) gNA := by
  refine CtA_ofF hl0 (by decide +kernel) (Nat.le_of_ble_eq_true rfl) ?_
  refine G_aload_n 0 dr_cJ5_length_8abf5_0 rfl ?_
  refine Gp_get 3 hmq640003 heq640003 dr_cJ5_length_8abf5_1 (gk_J4 D I) (Nat.le_of_ble_eq_true rfl) wr_7_64 rfl ?_
  exact G_iretA dr_cJ5_length_8abf5_4 rfl (Nat.le_of_ble_eq_true rfl) (Nat.le_of_ble_eq_true rfl) ⟨rfl, rfl, (Nat.le_of_ble_eq_true rfl), (Nat.le_of_ble_eq_true rfl)⟩
abbrev ky_640000_StringBuilder_length : gKey := (cJ4_length_8abf5, 1, "java/lang/StringBuilder", (some FieldType.int), [], "length", fun _ _ => True)
def pp_640000_StringBuilder_length (D : va_G) (I : FieldType → ClassId) (P639991 : List Nat) (F639992 : Nat → va_E) (q639993 : Nat) (q639994 : Nat) (p639995 : Int32) (p639996 : Int32) (f639997 : Nat → Int32) (n639998 : Nat) : Option Value → va_W → Nat → Nat → Prop := fun r w dc ds => r = some (.int p639996) ∧ w = va_pl P639991 F639992 ∧ dc ≤ 0 ∧ ds ≤ 0
set_option maxRecDepth 100000 in
set_option maxHeartbeats 4000000 in
theorem cp_640000_StringBuilder_length (l : Launch) (hl0 : l.stackTraces = false) (D : va_G) (I : FieldType → ClassId) (P639991 : List Nat) (F639992 : Nat → va_E) (q639993 : Nat) (q639994 : Nat) (p639995 : Int32) (p639996 : Int32) (f639997 : Nat → Int32) (n639998 : Nat) (hmq639993 : q639993 ∈ P639991) (hmq639994 : q639994 ∈ P639991) (heq639993 : F639992 q639993 = .inr (1, [.ref q639994, .int 0, .int p639995, .int p639996])) (heq639994 : F639992 q639994 = .inl (I .byte, n639998, .inl f639997)) (bp639995 : gB p639995 0 1) (bp639996 : gB p639996 0 16777216) (bf639997 : gF f639997 (-128) 127) (x639999 : ((n639998 : Int) ≤ 16777216)) : CtA (gV D I) l yJ4_length_8abf5 cJ4_length_8abf5 1 (some FieldType.int) 1 20 0 0 [.ref q639993] (va_pl P639991 F639992) (pp_640000_StringBuilder_length D I P639991 F639992 q639993 q639994 p639995 p639996 f639997 n639998) gNA := by
  refine CtA_ofF hl0 (by decide +kernel) (Nat.le_of_ble_eq_true rfl) ?_
  refine G_aload_n 0 dr_cJ4_length_8abf5_0 rfl ?_
  refine Gw_callSU (As := []) (gV_ok D I) (cp_640010_AbstractStringBuilder_length l hl0 D I P639991 F639992 q639993 q639994 p639995 p639996 f639997 n639998 hmq639993 hmq639994 heq639993 heq639994 bp639995 bp639996 bf639997 (by have qa0 : Int32.toInt 0 = 0 := (by decide); omega)) dr_cJ4_length_8abf5_1 ⟨wr_8_90, wr_1_19, wr_8_91, by decide, rfl, (Nat.le_of_ble_eq_true rfl), (Nat.le_of_ble_eq_true rfl)⟩ wr_8_85 wr_8_86 wr_7_73 wr_7_44 (by decide) hmq639993 heq639993 rfl (show 0 + 0 ≤ 0 by first | omega | decide) (show 0 + 0 ≤ 0 by first | omega | decide) (Nat.le_of_ble_eq_true rfl) (fun r640014 w640015 dc640011 ds640012 hp640013 => ?_)
  obtain ⟨rfl, rfl, hdc, hds⟩ := hp640013
  change G _ _ _ _ _ _ _ (.int p639996 :: _) _ _ _
  refine G_widen (cs' := 0) (sl' := 0) (by omega) (by omega) ?_
  exact G_iretA dr_cJ4_length_8abf5_4 rfl (Nat.le_of_ble_eq_true rfl) (Nat.le_of_ble_eq_true rfl) ⟨rfl, rfl, (Nat.le_of_ble_eq_true rfl), (Nat.le_of_ble_eq_true rfl)⟩
abbrev ky_640063_Preconditions_checkIndex : gKey := (cJ3_checkIndex_8e157, 3, "jdk/internal/util/Preconditions", (some FieldType.int), [], "checkIndex", fun _ _ => True)
def pp_640063_Preconditions_checkIndex (D : va_G) (I : FieldType → ClassId) (P640057 : List Nat) (F640058 : Nat → va_E) (p640059 : Int32) (p640060 : Int32) (qo640061 : Nat) : Option Value → va_W → Nat → Nat → Prop := fun r w dc ds => r = some (.int p640059) ∧ w = va_pl P640057 F640058 ∧ dc ≤ 0 ∧ ds ≤ 0
set_option maxRecDepth 100000 in
set_option maxHeartbeats 4000000 in
theorem cp_640063_Preconditions_checkIndex (l : Launch) (hl0 : l.stackTraces = false) (D : va_G) (I : FieldType → ClassId) (P640057 : List Nat) (F640058 : Nat → va_E) (p640059 : Int32) (p640060 : Int32) (qo640061 : Nat) (bp640059 : gB p640059 0 16777216) (bp640060 : gB p640060 0 16777216) (x640062 : p640059.toInt < p640060.toInt) : CtA (gV D I) l yJ3_checkIndex_8e157 cJ3_checkIndex_8e157 3 (some FieldType.int) 0 0 0 0 [.int p640059, .int p640060, .ref qo640061] (va_pl P640057 F640058) (pp_640063_Preconditions_checkIndex D I P640057 F640058 p640059 p640060 qo640061) gNA := by
  refine CtA_ofF hl0 (by decide +kernel) (Nat.le_of_ble_eq_true rfl) ?_
  refine G_iload_n 0 dr_cJ3_checkIndex_8e157_0 rfl ?_
  refine G_if_lt 9 dr_cJ3_checkIndex_8e157_1 (by decide +kernel) (fun hc => absurd (show False by have := gj_lt hc (show Int32.toInt 0 = 0 by decide); omega) not_false) (fun _ => ?_)
  refine G_iload_n 0 dr_cJ3_checkIndex_8e157_4 rfl ?_
  refine G_iload_n 1 dr_cJ3_checkIndex_8e157_5 rfl ?_
  refine G_icmp_lt 16 dr_cJ3_checkIndex_8e157_6 (by decide +kernel) (fun hc640064 => ?_) (fun hc640064 => ?_)
  · have r640065 : p640059.toInt < p640060.toInt := gC_lt hc640064
    have bp640059' : gB p640059 0 16777215 := ⟨by omega, by omega⟩
    have bp640060' : gB p640060 1 16777216 := ⟨by omega, by omega⟩
    refine G_iload_n 0 dr_cJ3_checkIndex_8e157_16 rfl ?_
    exact G_iretA dr_cJ3_checkIndex_8e157_17 rfl (Nat.le_of_ble_eq_true rfl) (Nat.le_of_ble_eq_true rfl) ⟨rfl, rfl, (Nat.le_of_ble_eq_true rfl), (Nat.le_of_ble_eq_true rfl)⟩
  · have r640066 : p640060.toInt ≤ p640059.toInt := gC_nlt hc640064
    exact absurd (show False by omega) not_false
abbrev ky_640050_String_checkIndex : gKey := (cJ0_checkIndex_df160, 2, "java/lang/String", none, [], "checkIndex", fun _ _ => True)
def pp_640050_String_checkIndex (D : va_G) (I : FieldType → ClassId) (P640045 : List Nat) (F640046 : Nat → va_E) (p640047 : Int32) (p640048 : Int32) : Option Value → va_W → Nat → Nat → Prop := fun r w dc ds => r = none ∧ w = va_pl P640045 F640046 ∧ dc ≤ 0 ∧ ds ≤ 0
set_option maxRecDepth 100000 in
set_option maxHeartbeats 4000000 in
theorem cp_640050_String_checkIndex (l : Launch) (hl0 : l.stackTraces = false) (D : va_G) (I : FieldType → ClassId) (P640045 : List Nat) (F640046 : Nat → va_E) (p640047 : Int32) (p640048 : Int32) (bp640047 : gB p640047 0 16777216) (bp640048 : gB p640048 0 16777216) (x640049 : p640047.toInt < p640048.toInt) : CtA (gV D I) l yJ0_checkIndex_df160 cJ0_checkIndex_df160 2 none 1 22 0 0 [.int p640047, .int p640048] (va_pl P640045 F640046) (pp_640050_String_checkIndex D I P640045 F640046 p640047 p640048) gNA := by
  refine CtA_ofF hl0 (by decide +kernel) (Nat.le_of_ble_eq_true rfl) ?_
  refine G_iload_n 0 dr_cJ0_checkIndex_df160_0 rfl ?_
  refine G_iload_n 1 dr_cJ0_checkIndex_df160_1 rfl ?_
  refine G_gets dr_cJ0_checkIndex_df160_2 wr_3_81 gz_pf (fun x hx => ?_)
  rcases hx with rfl | ⟨t640051, rfl⟩
  · refine Gw_callS (As := [.int p640047, .int p640048, .null]) (gV_ok D I) (cp_34_Preconditions_checkIndex l hl0 D I P640045 F640046 p640047 p640048 bp640047 bp640048 (by omega)) dr_cJ0_checkIndex_df160_5 ⟨wr_3_83, wr_1_29, wr_3_85, by decide, rfl, (Nat.le_of_ble_eq_true rfl), (Nat.le_of_ble_eq_true rfl)⟩ wr_3_84 (show 0 + 0 ≤ 0 by first | omega | decide) (show 0 + 0 ≤ 0 by first | omega | decide) (Nat.le_of_ble_eq_true rfl) (fun r640055 w640056 dc640052 ds640053 hp640054 => ?_) (fun _ _ _ _ _ z => z.elim)
    obtain ⟨rfl, rfl, hdc, hds⟩ := hp640054
    change G _ _ _ _ _ _ _ (.int p640047 :: _) _ _ _
    refine G_widen (cs' := 0) (sl' := 0) (by omega) (by omega) ?_
    refine G_pop dr_cJ0_checkIndex_df160_8 rfl ?_
    exact G_vretA dr_cJ0_checkIndex_df160_9 rfl (Nat.le_of_ble_eq_true rfl) (Nat.le_of_ble_eq_true rfl) ⟨rfl, rfl, (Nat.le_of_ble_eq_true rfl), (Nat.le_of_ble_eq_true rfl)⟩
  · refine Gw_callS (As := [.int p640047, .int p640048, .ref t640051]) (gV_ok D I) (cp_640063_Preconditions_checkIndex l hl0 D I P640045 F640046 p640047 p640048 t640051 bp640047 bp640048 (by omega)) dr_cJ0_checkIndex_df160_5 ⟨wr_3_83, wr_1_29, wr_3_85, by decide, rfl, (Nat.le_of_ble_eq_true rfl), (Nat.le_of_ble_eq_true rfl)⟩ wr_3_84 (show 0 + 0 ≤ 0 by first | omega | decide) (show 0 + 0 ≤ 0 by first | omega | decide) (Nat.le_of_ble_eq_true rfl) (fun r640070 w640071 dc640067 ds640068 hp640069 => ?_) (fun _ _ _ _ _ z => z.elim)
    obtain ⟨rfl, rfl, hdc, hds⟩ := hp640069
    change G _ _ _ _ _ _ _ (.int p640047 :: _) _ _ _
    refine G_widen (cs' := 0) (sl' := 0) (by omega) (by omega) ?_
    refine G_pop dr_cJ0_checkIndex_df160_8 rfl ?_
    exact G_vretA dr_cJ0_checkIndex_df160_9 rfl (Nat.le_of_ble_eq_true rfl) (Nat.le_of_ble_eq_true rfl) ⟨rfl, rfl, (Nat.le_of_ble_eq_true rfl), (Nat.le_of_ble_eq_true rfl)⟩
abbrev ky_640041_AbstractStringBuilder_charAt : gKey := (cJ5_charAt_5068e, 5, "java/lang/AbstractStringBuilder", (some FieldType.char), [], "charAt", fun _ _ => True)
def pp_640041_AbstractStringBuilder_charAt (D : va_G) (I : FieldType → ClassId) (P640029 : List Nat) (F640030 : Nat → va_E) (q640031 : Nat) (q640032 : Nat) (p640033 : Int32) (p640034 : Int32) (p640035 : Int32) (f640036 : Nat → Int32) (n640037 : Nat) : Option Value → va_W → Nat → Nat → Prop := fun r w dc ds => ∃ (o640080 : Int32), r = some (.int o640080) ∧ w = va_pl P640029 F640030 ∧ dc ≤ 0 ∧ ds ≤ 0 ∧ gB o640080 0 65535
set_option maxRecDepth 100000 in
set_option maxHeartbeats 4000000 in
theorem cp_640041_AbstractStringBuilder_charAt (l : Launch) (hl0 : l.stackTraces = false) (D : va_G) (I : FieldType → ClassId) (P640029 : List Nat) (F640030 : Nat → va_E) (q640031 : Nat) (q640032 : Nat) (p640033 : Int32) (p640034 : Int32) (p640035 : Int32) (f640036 : Nat → Int32) (n640037 : Nat) (hmq640031 : q640031 ∈ P640029) (hmq640032 : q640032 ∈ P640029) (heq640031 : F640030 q640031 = .inr (1, [.ref q640032, .int 0, .int p640034, .int p640035])) (heq640032 : F640030 q640032 = .inl (I .byte, n640037, .inl f640036)) (bp640033 : gB p640033 0 16777215) (bp640034 : gB p640034 0 1) (bp640035 : gB p640035 0 16777216) (bf640036 : gF f640036 (-128) 127) (x640038 : p640033.toInt < p640035.toInt) (x640039 : p640035.toInt ≤ (n640037 : Int)) (x640040 : ((n640037 : Int) ≤ 16777216)) : CtA (gV D I) l yJ5_charAt_5068e cJ5_charAt_5068e 5 (some FieldType.char) 2 43 0 0 [.ref q640031, .int p640033] (va_pl P640029 F640030) (pp_640041_AbstractStringBuilder_charAt D I P640029 F640030 q640031 q640032 p640033 p640034 p640035 f640036 n640037) gNA := by
  refine CtA_ofF hl0 (by decide +kernel) (Nat.le_of_ble_eq_true rfl) ?_
  refine G_aload_n 0 dr_cJ5_charAt_5068e_0 rfl ?_
  refine Gp_get 1 hmq640031 heq640031 dr_cJ5_charAt_5068e_1 (gk_J4 D I) (Nat.le_of_ble_eq_true rfl) wr_7_61 rfl ?_
  refine G_istore_n (L' := [(2, .int 0), (0, .ref q640031), (1, .int p640033)]) dr_cJ5_charAt_5068e_4 (Nat.le_of_ble_eq_true rfl) rfl ?_
  refine G_aload_n 1 dr_cJ5_charAt_5068e_5 rfl ?_
  refine Gp_get 0 hmq640031 heq640031 dr_cJ5_charAt_5068e_6 (gk_J4 D I) (Nat.le_of_ble_eq_true rfl) wr_7_60 rfl ?_
  refine G_astore_n (L' := [(3, .ref q640032), (2, .int 0), (0, .ref q640031), (1, .int p640033)]) dr_cJ5_charAt_5068e_9 (Nat.le_of_ble_eq_true rfl) rfl ?_
  refine G_aload_n 2 dr_cJ5_charAt_5068e_10 rfl ?_
  refine Gp_get 3 hmq640031 heq640031 dr_cJ5_charAt_5068e_11 (gk_J4 D I) (Nat.le_of_ble_eq_true rfl) wr_7_64 rfl ?_
  refine G_aload_n 0 dr_cJ5_charAt_5068e_14 rfl ?_
  refine Gp_alen (Int32.ofNat n640037) 1 hmq640032 heq640032 dr_cJ5_charAt_5068e_15 rfl rfl (G_nam fun z640042 hz640042 => ?_)
  have ez640042 : z640042.toInt = (n640037 : Nat) := gI_ofM hz640042 (by omega)
  have bz640042 : gB z640042 0 16777216 := ⟨by omega, by omega⟩
  refine G_iload_n 1 dr_cJ5_charAt_5068e_16 rfl ?_
  refine G_ishr dr_cJ5_charAt_5068e_17 (G_nam fun z640043 hz640043 => ?_)
  have ez640043 : z640043.toInt = z640042.toInt / 1 := gI_shr (k := 0) hz640043 (by decide)
  have bz640043 : gB z640043 0 16777216 := ⟨by omega, by omega⟩
  refine G_mmin dr_cJ5_charAt_5068e_18 wr_11_216 wr_3_227 wr_1_6 wr_3_228 (Nat.le_of_ble_eq_true rfl) (Nat.le_of_ble_eq_true rfl) (show 0 ≤ 0 by first | omega | decide) (show 0 ≤ 0 by first | omega | decide) (G_nam fun z640044 hz640044 => ?_)
  have ez640044 : p640035.toInt ≥ z640044.toInt ∧ z640043.toInt ≥ z640044.toInt ∧ (z640044.toInt = p640035.toInt ∨ z640044.toInt = z640043.toInt) := by have := gI_min hz640044; omega
  have bz640044 : gB z640044 0 16777216 := ⟨by omega, by omega⟩
  refine G_istore (L' := [(4, .int z640044), (3, .ref q640032), (2, .int 0), (0, .ref q640031), (1, .int p640033)]) dr_cJ5_charAt_5068e_21 (Nat.le_of_ble_eq_true rfl) rfl ?_
  refine G_iload_n 4 dr_cJ5_charAt_5068e_23 rfl ?_
  refine G_iload 0 dr_cJ5_charAt_5068e_24 rfl ?_
  refine Gw_callS (As := [.int p640033, .int z640044]) (gV_ok D I) (cp_640050_String_checkIndex l hl0 D I P640029 F640030 p640033 z640044 (gB_w bp640033 (by decide) (by decide)) bz640044 (by have qa0 : Int32.toInt 0 = 0 := (by decide); omega)) dr_cJ5_charAt_5068e_26 ⟨wr_11_217, wr_1_21, wr_3_80, by decide, rfl, (Nat.le_of_ble_eq_true rfl), (Nat.le_of_ble_eq_true rfl)⟩ wr_3_79 (show 0 + 0 ≤ 0 by first | omega | decide) (show 0 + 0 ≤ 0 by first | omega | decide) (Nat.le_of_ble_eq_true rfl) (fun r640075 w640076 dc640072 ds640073 hp640074 => ?_) (fun _ _ _ _ _ z => z.elim)
  obtain ⟨rfl, rfl, hdc, hds⟩ := hp640074
  change G _ _ _ _ _ _ _ _ _ _ _
  refine G_widen (cs' := 0) (sl' := 0) (by omega) (by omega) ?_
  refine G_iload_n 2 dr_cJ5_charAt_5068e_29 rfl ?_
  refine G_if_ne 42 dr_cJ5_charAt_5068e_30 (by decide +kernel) (fun hc => absurd hc (by decide)) (fun _ => ?_)
  refine G_aload_n 1 dr_cJ5_charAt_5068e_33 rfl ?_
  refine G_iload_n 4 dr_cJ5_charAt_5068e_34 rfl ?_
  refine Gp_bald 1 hmq640032 heq640032 dr_cJ5_charAt_5068e_35 rfl (gB_inr (by omega) (by omega)) (G_nam fun z640077 hz640077 => ?_)
  have bz640077 : gB z640077 (-128) 127 := by rw [hz640077]; exact bf640036 _
  refine G_sipush 255 dr_cJ5_charAt_5068e_36 (by decide +kernel) ?_
  refine G_iand dr_cJ5_charAt_5068e_39 (G_nam fun z640078 hz640078 => ?_)
  have bz640078 : gB z640078 0 255 := gB_and hz640078 (gBl (show Int32.toInt 255 = 255 by decide)) (by decide)
  refine G_i2c dr_cJ5_charAt_5068e_40 (G_nam fun z640079 hz640079 => ?_)
  have bz640079 : gB z640079 0 65535 := gB_i2c hz640079
  exact G_zretA FieldType.char dr_cJ5_charAt_5068e_41 rfl (gN_char bz640079) (Nat.le_of_ble_eq_true rfl) (Nat.le_of_ble_eq_true rfl) ⟨z640079, rfl, rfl, (Nat.le_of_ble_eq_true rfl), (Nat.le_of_ble_eq_true rfl), bz640079⟩
abbrev ky_640028_StringBuilder_charAt : gKey := (cJ4_charAt_5068e, 2, "java/lang/StringBuilder", (some FieldType.char), [], "charAt", fun _ _ => True)
def pp_640028_StringBuilder_charAt (D : va_G) (I : FieldType → ClassId) (P640016 : List Nat) (F640017 : Nat → va_E) (q640018 : Nat) (q640019 : Nat) (p640020 : Int32) (p640021 : Int32) (p640022 : Int32) (f640023 : Nat → Int32) (n640024 : Nat) : Option Value → va_W → Nat → Nat → Prop := fun r w dc ds => ∃ (o640087 : Int32), r = some (.int o640087) ∧ w = va_pl P640016 F640017 ∧ dc ≤ 0 ∧ ds ≤ 0 ∧ gB o640087 0 65535
set_option maxRecDepth 100000 in
set_option maxHeartbeats 4000000 in
theorem cp_640028_StringBuilder_charAt (l : Launch) (hl0 : l.stackTraces = false) (D : va_G) (I : FieldType → ClassId) (P640016 : List Nat) (F640017 : Nat → va_E) (q640018 : Nat) (q640019 : Nat) (p640020 : Int32) (p640021 : Int32) (p640022 : Int32) (f640023 : Nat → Int32) (n640024 : Nat) (hmq640018 : q640018 ∈ P640016) (hmq640019 : q640019 ∈ P640016) (heq640018 : F640017 q640018 = .inr (1, [.ref q640019, .int 0, .int p640021, .int p640022])) (heq640019 : F640017 q640019 = .inl (I .byte, n640024, .inl f640023)) (bp640020 : gB p640020 0 16777215) (bp640021 : gB p640021 0 1) (bp640022 : gB p640022 0 16777216) (bf640023 : gF f640023 (-128) 127) (x640025 : p640020.toInt < p640022.toInt) (x640026 : p640022.toInt ≤ (n640024 : Int)) (x640027 : ((n640024 : Int) ≤ 16777216)) : CtA (gV D I) l yJ4_charAt_5068e cJ4_charAt_5068e 2 (some FieldType.char) 3 67 0 0 [.ref q640018, .int p640020] (va_pl P640016 F640017) (pp_640028_StringBuilder_charAt D I P640016 F640017 q640018 q640019 p640020 p640021 p640022 f640023 n640024) gNA := by
  refine CtA_ofF hl0 (by decide +kernel) (Nat.le_of_ble_eq_true rfl) ?_
  refine G_aload_n 0 dr_cJ4_charAt_5068e_0 rfl ?_
  refine G_iload_n 1 dr_cJ4_charAt_5068e_1 rfl ?_
  refine Gw_callSU (As := [.int p640020]) (gV_ok D I) (cp_640041_AbstractStringBuilder_charAt l hl0 D I P640016 F640017 q640018 q640019 p640020 p640021 p640022 f640023 n640024 hmq640018 hmq640019 heq640018 heq640019 bp640020 bp640021 bp640022 bf640023 (by have qa0 : Int32.toInt 0 = 0 := (by decide); omega) (by have qa0 : Int32.toInt 0 = 0 := (by decide); omega) (by have qa0 : Int32.toInt 0 = 0 := (by decide); omega)) dr_cJ4_charAt_5068e_2 ⟨wr_11_213, wr_1_19, wr_11_215, by decide, rfl, (Nat.le_of_ble_eq_true rfl), (Nat.le_of_ble_eq_true rfl)⟩ wr_11_214 wr_11_235 wr_7_73 wr_7_44 (by decide) hmq640018 heq640018 rfl (show 0 + 0 ≤ 0 by first | omega | decide) (show 0 + 0 ≤ 0 by first | omega | decide) (Nat.le_of_ble_eq_true rfl) (fun r640084 w640085 dc640081 ds640082 hp640083 => ?_)
  obtain ⟨o640086, rfl, rfl, hdc, hds, bo640086⟩ := hp640083
  change G _ _ _ _ _ _ _ (.int o640086 :: _) _ _ _
  refine G_widen (cs' := 0) (sl' := 0) (by omega) (by omega) ?_
  exact G_zretA FieldType.char dr_cJ4_charAt_5068e_5 rfl (gN_char bo640086) (Nat.le_of_ble_eq_true rfl) (Nat.le_of_ble_eq_true rfl) ⟨o640086, rfl, rfl, (Nat.le_of_ble_eq_true rfl), (Nat.le_of_ble_eq_true rfl), bo640086⟩
abbrev ky_640124_AbstractStringBuilder_ensureCapacityInternal : gKey := (cJ5_ensureCapacityInternal_d00df, 3, "java/lang/AbstractStringBuilder", none, [], "ensureCapacityInternal", fun _ _ => True)
def pp_640124_AbstractStringBuilder_ensureCapacityInternal (D : va_G) (I : FieldType → ClassId) (P640113 : List Nat) (F640114 : Nat → va_E) (q640115 : Nat) (q640116 : Nat) (p640117 : Int32) (p640118 : Int32) (p640119 : Int32) (f640120 : Nat → Int32) (n640121 : Nat) : Option Value → va_W → Nat → Nat → Prop := fun r w dc ds => r = none ∧ w = va_pl P640113 F640114 ∧ dc ≤ 0 ∧ ds ≤ 0
set_option maxRecDepth 100000 in
set_option maxHeartbeats 4000000 in
theorem cp_640124_AbstractStringBuilder_ensureCapacityInternal (l : Launch) (hl0 : l.stackTraces = false) (D : va_G) (I : FieldType → ClassId) (P640113 : List Nat) (F640114 : Nat → va_E) (q640115 : Nat) (q640116 : Nat) (p640117 : Int32) (p640118 : Int32) (p640119 : Int32) (f640120 : Nat → Int32) (n640121 : Nat) (hmq640115 : q640115 ∈ P640113) (hmq640116 : q640116 ∈ P640113) (heq640115 : F640114 q640115 = .inr (1, [.ref q640116, .int 0, .int p640118, .int p640119])) (heq640116 : F640114 q640116 = .inl (I .byte, n640121, .inl f640120)) (bp640117 : gB p640117 0 16777216) (bp640118 : gB p640118 0 1) (bp640119 : gB p640119 0 16777216) (bf640120 : gF f640120 (-128) 127) (x640122 : p640117.toInt ≤ (n640121 : Int)) (x640123 : ((n640121 : Int) ≤ 16777216)) : CtA (gV D I) l yJ5_ensureCapacityInternal_d00df cJ5_ensureCapacityInternal_d00df 3 none 0 0 0 0 [.ref q640115, .int p640117] (va_pl P640113 F640114) (pp_640124_AbstractStringBuilder_ensureCapacityInternal D I P640113 F640114 q640115 q640116 p640117 p640118 p640119 f640120 n640121) gNA := by
  refine CtA_ofF hl0 (by decide +kernel) (Nat.le_of_ble_eq_true rfl) ?_
  refine G_aload_n 0 dr_cJ5_ensureCapacityInternal_d00df_0 rfl ?_
  refine Gp_get 0 hmq640115 heq640115 dr_cJ5_ensureCapacityInternal_d00df_1 (gk_J4 D I) (Nat.le_of_ble_eq_true rfl) wr_7_60 rfl ?_
  refine Gp_alen (Int32.ofNat n640121) 1 hmq640116 heq640116 dr_cJ5_ensureCapacityInternal_d00df_4 rfl rfl (G_nam fun z640125 hz640125 => ?_)
  have ez640125 : z640125.toInt = (n640121 : Nat) := gI_ofM hz640125 (by omega)
  have bz640125 : gB z640125 0 16777216 := ⟨by omega, by omega⟩
  refine G_aload_n 0 dr_cJ5_ensureCapacityInternal_d00df_5 rfl ?_
  refine Gp_get 1 hmq640115 heq640115 dr_cJ5_ensureCapacityInternal_d00df_6 (gk_J4 D I) (Nat.le_of_ble_eq_true rfl) wr_7_61 rfl ?_
  refine G_ishr dr_cJ5_ensureCapacityInternal_d00df_9 (G_nam fun z640126 hz640126 => ?_)
  have ez640126 : z640126.toInt = z640125.toInt / 1 := gI_shr (k := 0) hz640126 (by decide)
  have bz640126 : gB z640126 0 16777216 := ⟨by omega, by omega⟩
  refine G_istore_n (L' := [(2, .int z640126), (0, .ref q640115), (1, .int p640117)]) dr_cJ5_ensureCapacityInternal_d00df_10 (Nat.le_of_ble_eq_true rfl) rfl ?_
  refine G_iload_n 2 dr_cJ5_ensureCapacityInternal_d00df_11 rfl ?_
  refine G_iload_n 0 dr_cJ5_ensureCapacityInternal_d00df_12 rfl ?_
  refine G_isub dr_cJ5_ensureCapacityInternal_d00df_13 (G_nam fun z640127 hz640127 => ?_)
  have ez640127 : z640127.toInt = p640117.toInt - z640126.toInt := by rw [gI_sub hz640127 bp640117 bz640126 (by decide) (by decide)]
  have bz640127 : gB z640127 (-16777216) 16777216 := gB_sub (gI_sub hz640127 bp640117 bz640126 (by decide) (by decide)) bp640117 bz640126 (by decide) (by decide)
  refine G_if_le 38 dr_cJ5_ensureCapacityInternal_d00df_14 (by decide +kernel) (fun hc640128 => ?_) (fun hc => absurd (show False by have := gj_nle hc (show Int32.toInt 0 = 0 by decide); omega) not_false)
  have r640130 : z640127.toInt ≤ 0 := gj_le hc640128 (show Int32.toInt 0 = 0 by decide)
  have bz640127' : gB z640127 (-16777216) 0 := ⟨by omega, by omega⟩
  exact G_vretA dr_cJ5_ensureCapacityInternal_d00df_38 rfl (Nat.le_of_ble_eq_true rfl) (Nat.le_of_ble_eq_true rfl) ⟨rfl, rfl, (Nat.le_of_ble_eq_true rfl), (Nat.le_of_ble_eq_true rfl)⟩
abbrev ky_640145_AbstractStringBuilder_isLatin1 : gKey := (cJ5_isLatin1_aae02, 1, "java/lang/AbstractStringBuilder", (some FieldType.boolean), [], "isLatin1", fun _ _ => True)
def pp_640145_AbstractStringBuilder_isLatin1 (D : va_G) (I : FieldType → ClassId) (P640136 : List Nat) (F640137 : Nat → va_E) (q640138 : Nat) (q640139 : Nat) (p640140 : Int32) (p640141 : Int32) (f640142 : Nat → Int32) (n640143 : Nat) : Option Value → va_W → Nat → Nat → Prop := fun r w dc ds => r = some (.int 1) ∧ w = va_pl P640136 F640137 ∧ dc ≤ 0 ∧ ds ≤ 0
set_option maxRecDepth 100000 in
set_option maxHeartbeats 4000000 in
theorem cp_640145_AbstractStringBuilder_isLatin1 (l : Launch) (hl0 : l.stackTraces = false) (D : va_G) (I : FieldType → ClassId) (P640136 : List Nat) (F640137 : Nat → va_E) (q640138 : Nat) (q640139 : Nat) (p640140 : Int32) (p640141 : Int32) (f640142 : Nat → Int32) (n640143 : Nat) (hmq640138 : q640138 ∈ P640136) (hmq640139 : q640139 ∈ P640136) (heq640138 : F640137 q640138 = .inr (1, [.ref q640139, .int 0, .int p640140, .int p640141])) (heq640139 : F640137 q640139 = .inl (I .byte, n640143, .inl f640142)) (bp640140 : gB p640140 0 1) (bp640141 : gB p640141 0 16777216) (bf640142 : gF f640142 (-128) 127) (x640144 : ((n640143 : Int) ≤ 16777216)) : CtA (gV D I) l yJ5_isLatin1_aae02 cJ5_isLatin1_aae02 1 (some FieldType.boolean) 0 0 0 0 [.ref q640138] (va_pl P640136 F640137) (pp_640145_AbstractStringBuilder_isLatin1 D I P640136 F640137 q640138 q640139 p640140 p640141 f640142 n640143) gNA := by
  refine CtA_ofF hl0 (by decide +kernel) (Nat.le_of_ble_eq_true rfl) ?_
  refine G_gets dr_cJ5_isLatin1_aae02_0 wr_7_52 gz_cs (fun x hx => ?_)
  subst hx
  refine G_if_eq 17 dr_cJ5_isLatin1_aae02_3 (by decide +kernel) (fun hc => absurd hc (by decide)) (fun _ => ?_)
  refine G_aload_n 0 dr_cJ5_isLatin1_aae02_6 rfl ?_
  refine Gp_get 1 hmq640138 heq640138 dr_cJ5_isLatin1_aae02_7 (gk_J4 D I) (Nat.le_of_ble_eq_true rfl) wr_7_61 rfl ?_
  refine G_if_ne 17 dr_cJ5_isLatin1_aae02_10 (by decide +kernel) (fun hc => absurd hc (by decide)) (fun _ => ?_)
  refine G_iconst 1 dr_cJ5_isLatin1_aae02_13 (by decide +kernel) ?_
  refine G_goto 18 dr_cJ5_isLatin1_aae02_14 (by decide +kernel) ?_
  exact G_zretA FieldType.boolean dr_cJ5_isLatin1_aae02_18 rfl rfl (Nat.le_of_ble_eq_true rfl) (Nat.le_of_ble_eq_true rfl) ⟨rfl, rfl, (Nat.le_of_ble_eq_true rfl), (Nat.le_of_ble_eq_true rfl)⟩
abbrev ky_640154_StringLatin1_canEncode : gKey := (cJ1_canEncode_fc78d, 1, "java/lang/StringLatin1", (some FieldType.boolean), [], "canEncode", fun _ _ => True)
def pp_640154_StringLatin1_canEncode (D : va_G) (I : FieldType → ClassId) (P640151 : List Nat) (F640152 : Nat → va_E) (p640153 : Int32) : Option Value → va_W → Nat → Nat → Prop := fun r w dc ds => (r = some (.int 0) ∧ w = va_pl P640151 F640152 ∧ dc ≤ 0 ∧ ds ≤ 0 ∧ 255 < p640153.toInt) ∨ (r = some (.int 1) ∧ w = va_pl P640151 F640152 ∧ dc ≤ 0 ∧ ds ≤ 0 ∧ p640153.toInt ≤ 255)
set_option maxRecDepth 100000 in
set_option maxHeartbeats 4000000 in
theorem cp_640154_StringLatin1_canEncode (l : Launch) (hl0 : l.stackTraces = false) (D : va_G) (I : FieldType → ClassId) (P640151 : List Nat) (F640152 : Nat → va_E) (p640153 : Int32) (bp640153 : gB p640153 0 65535) : CtA (gV D I) l yJ1_canEncode_fc78d cJ1_canEncode_fc78d 1 (some FieldType.boolean) 0 0 0 0 [.int p640153] (va_pl P640151 F640152) (pp_640154_StringLatin1_canEncode D I P640151 F640152 p640153) gNA := by
  refine CtA_ofF hl0 (by decide +kernel) (Nat.le_of_ble_eq_true rfl) ?_
  refine G_iload_n 0 dr_cJ1_canEncode_fc78d_0 rfl ?_
  refine G_sipush 255 dr_cJ1_canEncode_fc78d_1 (by decide +kernel) ?_
  refine G_icmp_gt 11 dr_cJ1_canEncode_fc78d_4 (by decide +kernel) (fun hc640155 => ?_) (fun hc640155 => ?_)
  · have r640156 : 255 < p640153.toInt := gj_ltL hc640155 (show Int32.toInt 255 = 255 by decide)
    have bp640153' : gB p640153 256 65535 := ⟨by omega, by omega⟩
    refine G_iconst 0 dr_cJ1_canEncode_fc78d_11 (by decide +kernel) ?_
    exact G_zretA FieldType.boolean dr_cJ1_canEncode_fc78d_12 rfl rfl (Nat.le_of_ble_eq_true rfl) (Nat.le_of_ble_eq_true rfl) (Or.inl ⟨rfl, rfl, (Nat.le_of_ble_eq_true rfl), (Nat.le_of_ble_eq_true rfl), r640156⟩)
  · have r640157 : p640153.toInt ≤ 255 := gj_nltL hc640155 (show Int32.toInt 255 = 255 by decide)
    have bp640153' : gB p640153 0 255 := ⟨by omega, by omega⟩
    refine G_iconst 1 dr_cJ1_canEncode_fc78d_7 (by decide +kernel) ?_
    refine G_goto 12 dr_cJ1_canEncode_fc78d_8 (by decide +kernel) ?_
    exact G_zretA FieldType.boolean dr_cJ1_canEncode_fc78d_12 rfl rfl (Nat.le_of_ble_eq_true rfl) (Nat.le_of_ble_eq_true rfl) (Or.inr (⟨rfl, rfl, (Nat.le_of_ble_eq_true rfl), (Nat.le_of_ble_eq_true rfl), r640157⟩))
abbrev ky_640111_AbstractStringBuilder_append : gKey := (cJ5_append_3fe6f, 2, "java/lang/AbstractStringBuilder", (some (FieldType.object "java/lang/AbstractStringBuilder")), [], "append", fun _ _ => True)
def pp_640111_AbstractStringBuilder_append (D : va_G) (I : FieldType → ClassId) (P640100 : List Nat) (F640101 : Nat → va_E) (q640102 : Nat) (q640103 : Nat) (p640104 : Int32) (p640105 : Int32) (p640106 : Int32) (f640107 : Nat → Int32) (n640108 : Nat) : Option Value → va_W → Nat → Nat → Prop := fun r w dc ds => ∃ (F640184 : Nat → va_E) (o640181 : Int32) (f640182 : Nat → Int32), r = some (.ref q640102) ∧ w = va_pl P640100 F640184 ∧ rFr [q640103, q640102] P640100 F640101 F640184 ∧ F640184 q640102 = .inr (1, [.ref q640103, .int 0, .int p640105, .int o640181]) ∧ F640184 q640103 = .inl (I .byte, n640108, .inl f640182) ∧ dc ≤ 0 ∧ ds ≤ 0 ∧ gB o640181 1 16777216 ∧ gF f640182 (-128) 127 ∧ o640181.toInt = p640106.toInt + 1
set_option maxRecDepth 100000 in
set_option maxHeartbeats 4000000 in
theorem cp_640111_AbstractStringBuilder_append (l : Launch) (hl0 : l.stackTraces = false) (D : va_G) (I : FieldType → ClassId) (P640100 : List Nat) (F640101 : Nat → va_E) (q640102 : Nat) (q640103 : Nat) (p640104 : Int32) (p640105 : Int32) (p640106 : Int32) (f640107 : Nat → Int32) (n640108 : Nat) (hmq640102 : q640102 ∈ P640100) (hmq640103 : q640103 ∈ P640100) (heq640102 : F640101 q640102 = .inr (1, [.ref q640103, .int 0, .int p640105, .int p640106])) (heq640103 : F640101 q640103 = .inl (I .byte, n640108, .inl f640107)) (bp640104 : gB p640104 0 255) (bp640105 : gB p640105 0 1) (bp640106 : gB p640106 0 16777216) (bf640107 : gF f640107 (-128) 127) (x640109 : p640106.toInt < (n640108 : Int)) (x640110 : ((n640108 : Int) ≤ 16777216)) : CtA (gV D I) l yJ5_append_3fe6f cJ5_append_3fe6f 2 (some (FieldType.object "java/lang/AbstractStringBuilder")) 1 22 0 0 [.ref q640102, .int p640104] (va_pl P640100 F640101) (pp_640111_AbstractStringBuilder_append D I P640100 F640101 q640102 q640103 p640104 p640105 p640106 f640107 n640108) gNA := by
  refine CtA_ofF hl0 (by decide +kernel) (Nat.le_of_ble_eq_true rfl) ?_
  refine G_aload_n 0 dr_cJ5_append_3fe6f_0 rfl ?_
  refine G_aload_n 0 dr_cJ5_append_3fe6f_1 rfl ?_
  refine Gp_get 3 hmq640102 heq640102 dr_cJ5_append_3fe6f_2 (gk_J4 D I) (Nat.le_of_ble_eq_true rfl) wr_7_64 rfl ?_
  refine G_iconst 1 dr_cJ5_append_3fe6f_5 (by decide +kernel) ?_
  refine G_iadd dr_cJ5_append_3fe6f_6 (G_nam fun z640112 hz640112 => ?_)
  have ez640112 : z640112.toInt = p640106.toInt + 1 := by rw [gI_add hz640112 bp640106 (gBl (show Int32.toInt 1 = 1 by decide)) (by decide) (by decide), show Int32.toInt 1 = 1 from by decide]
  have bz640112 : gB z640112 1 16777217 := gB_add (gI_add hz640112 bp640106 (gBl (show Int32.toInt 1 = 1 by decide)) (by decide) (by decide)) bp640106 (gBl (show Int32.toInt 1 = 1 by decide)) (by decide) (by decide)
  refine Gw_callVB (As := [.int z640112]) (gV_ok D I) (cp_640124_AbstractStringBuilder_ensureCapacityInternal l hl0 D I P640100 F640101 q640102 q640103 z640112 p640105 p640106 f640107 n640108 hmq640102 hmq640103 heq640102 heq640103 ⟨by omega, by omega⟩ bp640105 bp640106 bf640107 (by have qa0 : Int32.toInt 0 = 0 := (by decide); omega) (by have qa0 : Int32.toInt 0 = 0 := (by decide); omega)) dr_cJ5_append_3fe6f_7 ⟨wr_8_4, wr_1_19, wr_8_7, by decide, rfl, (Nat.le_of_ble_eq_true rfl), (Nat.le_of_ble_eq_true rfl)⟩ wr_8_6 wr_s_0 hmq640102 heq640102 rfl (show 0 + 0 ≤ 0 by first | omega | decide) (show 0 + 0 ≤ 0 by first | omega | decide) (Nat.le_of_ble_eq_true rfl) (fun r640134 w640135 dc640131 ds640132 hp640133 => ?_) (fun _ _ _ _ _ z => z.elim)
  obtain ⟨rfl, rfl, hdc, hds⟩ := hp640133
  change G _ _ _ _ _ _ _ _ _ _ _
  refine G_widen (cs' := 0) (sl' := 0) (by omega) (by omega) ?_
  refine G_aload_n 0 dr_cJ5_append_3fe6f_10 rfl ?_
  refine Gw_callVB (As := []) (gV_ok D I) (cp_640145_AbstractStringBuilder_isLatin1 l hl0 D I P640100 F640101 q640102 q640103 p640105 p640106 f640107 n640108 hmq640102 hmq640103 heq640102 heq640103 bp640105 bp640106 bf640107 (by have qa0 : Int32.toInt 0 = 0 := (by decide); omega)) dr_cJ5_append_3fe6f_11 ⟨wr_8_33, wr_1_19, wr_8_37, by decide, rfl, (Nat.le_of_ble_eq_true rfl), (Nat.le_of_ble_eq_true rfl)⟩ wr_8_34 wr_8_36 hmq640102 heq640102 rfl (show 0 + 0 ≤ 0 by first | omega | decide) (show 0 + 0 ≤ 0 by first | omega | decide) (Nat.le_of_ble_eq_true rfl) (fun r640149 w640150 dc640146 ds640147 hp640148 => ?_) (fun _ _ _ _ _ z => z.elim)
  obtain ⟨rfl, rfl, hdc, hds⟩ := hp640148
  change G _ _ _ _ _ _ _ (.int 1 :: _) _ _ _
  refine G_widen (cs' := 0) (sl' := 0) (by omega) (by omega) ?_
  refine G_if_eq 45 dr_cJ5_append_3fe6f_14 (by decide +kernel) (fun hc => absurd hc (by decide)) (fun _ => ?_)
  refine G_iload_n 1 dr_cJ5_append_3fe6f_17 rfl ?_
  refine Gw_callS (As := [.int p640104]) (gV_ok D I) (cp_640154_StringLatin1_canEncode l hl0 D I P640100 F640101 p640104 (gB_w bp640104 (by decide) (by decide))) dr_cJ5_append_3fe6f_18 ⟨wr_8_38, wr_1_28, wr_8_40, by decide, rfl, (Nat.le_of_ble_eq_true rfl), (Nat.le_of_ble_eq_true rfl)⟩ wr_8_39 (show 0 + 0 ≤ 0 by first | omega | decide) (show 0 + 0 ≤ 0 by first | omega | decide) (Nat.le_of_ble_eq_true rfl) (fun r640161 w640162 dc640158 ds640159 hp640160 => ?_) (fun _ _ _ _ _ z => z.elim)
  rcases hp640160 with ⟨rfl, rfl, hdc, hds, r640163⟩ | ⟨rfl, rfl, hdc, hds, r640164⟩
  · exact absurd (show False by omega) not_false
  · change G _ _ _ _ _ _ _ (.int 1 :: _) _ _ _
    refine G_widen (cs' := 0) (sl' := 0) (by omega) (by omega) ?_
    refine G_if_eq 45 dr_cJ5_append_3fe6f_21 (by decide +kernel) (fun hc => absurd hc (by decide)) (fun _ => ?_)
    refine G_aload_n 0 dr_cJ5_append_3fe6f_24 rfl ?_
    refine Gp_get 0 hmq640102 heq640102 dr_cJ5_append_3fe6f_25 (gk_J4 D I) (Nat.le_of_ble_eq_true rfl) wr_7_60 rfl ?_
    refine G_aload_n 0 dr_cJ5_append_3fe6f_28 rfl ?_
    refine G_dup dr_cJ5_append_3fe6f_29 rfl ?_
    refine Gp_get 3 hmq640102 heq640102 dr_cJ5_append_3fe6f_30 (gk_J4 D I) (Nat.le_of_ble_eq_true rfl) wr_7_64 rfl ?_
    refine G_dup_x1 dr_cJ5_append_3fe6f_33 rfl rfl ?_
    refine G_iconst 1 dr_cJ5_append_3fe6f_34 (by decide +kernel) ?_
    refine G_iadd dr_cJ5_append_3fe6f_35 (G_nam fun z640166 hz640166 => ?_)
    have ez640166 : z640166.toInt = p640106.toInt + 1 := by rw [gI_add hz640166 bp640106 (gBl (show Int32.toInt 1 = 1 by decide)) (by decide) (by decide), show Int32.toInt 1 = 1 from by decide]
    have bz640166 : gB z640166 1 16777217 := gB_add (gI_add hz640166 bp640106 (gBl (show Int32.toInt 1 = 1 by decide)) (by decide) (by decide)) bp640106 (gBl (show Int32.toInt 1 = 1 by decide)) (by decide) (by decide)
    refine Gp_put 3 hmq640102 heq640102 dr_cJ5_append_3fe6f_36 (gk_J4 D I) (Nat.le_of_ble_eq_true rfl) wr_7_64 rfl rfl rfl (Nat.le_of_ble_eq_true rfl) (fun F640167 e640168 n640169 => ?_)
    have he640170 : F640167 q640103 = .inl (I .byte, n640108, .inl f640107) := (n640169 q640103 (rn_ao heq640103 heq640102)).trans heq640103
    have he640171 : F640167 q640102 = .inr (1, [.ref q640103, .int 0, .int p640105, .int z640166]) := e640168
    have hfr640172 : rFr [q640102] P640100 F640101 F640167 := rFr_put (rFr_rf (W := []) (P := P640100) (F := F640101)) n640169
    refine G_iload_n 1 dr_cJ5_append_3fe6f_39 rfl ?_
    refine G_i2b dr_cJ5_append_3fe6f_40 (G_nam fun z640173 hz640173 => ?_)
    have bz640173 : gB z640173 (-128) 127 := gB_i2b hz640173
    refine Gp_bast 1 hmq640103 he640170 dr_cJ5_append_3fe6f_41 rfl (gB_inr (by omega) (by omega)) (fun F640174 e640175 n640176 => ?_)
    obtain ⟨f640177, hf640177⟩ : ∃ z, z = upd f640107 p640106.toNatClampNeg (vp_nar .byte z640173) := ⟨_, rfl⟩
    rw [← hf640177] at e640175
    have he640178 : F640174 q640102 = .inr (1, [.ref q640103, .int 0, .int p640105, .int z640166]) := (n640176 q640102 (rn_oa he640171 he640170)).trans he640171
    have he640179 : F640174 q640103 = .inl (I .byte, n640108, .inl f640177) := e640175
    have hfr640180 : rFr [q640103, q640102] P640100 F640101 F640174 := rFr_put hfr640172 n640176
    have bf640177 : gF f640177 (-128) 127 := gF_upd hf640177 bf640107 gB_byte
    refine G_goto 75 dr_cJ5_append_3fe6f_42 (by decide +kernel) ?_
    refine G_aload_n 0 dr_cJ5_append_3fe6f_75 rfl ?_
    exact G_aretA (FieldType.object "java/lang/AbstractStringBuilder") dr_cJ5_append_3fe6f_76 rfl (by first | exact Or.inl ⟨_, rfl⟩ | exact Or.inr ⟨_, rfl⟩) (Or.inr ⟨_, rfl⟩) (Nat.le_of_ble_eq_true rfl) (Nat.le_of_ble_eq_true rfl) ⟨F640174, z640166, f640177, rfl, rfl, hfr640180, he640178, he640179, (Nat.le_of_ble_eq_true rfl), (Nat.le_of_ble_eq_true rfl), ⟨by omega, by omega⟩, bf640177, (by have qa0 : Int32.toInt 0 = 0 := (by decide); omega)⟩
abbrev ky_640099_StringBuilder_append : gKey := (cJ4_append_cf468, 2, "java/lang/StringBuilder", (some (FieldType.object "java/lang/StringBuilder")), [], "append", fun _ _ => True)
def pp_640099_StringBuilder_append (D : va_G) (I : FieldType → ClassId) (P640088 : List Nat) (F640089 : Nat → va_E) (q640090 : Nat) (q640091 : Nat) (p640092 : Int32) (p640093 : Int32) (p640094 : Int32) (f640095 : Nat → Int32) (n640096 : Nat) : Option Value → va_W → Nat → Nat → Prop := fun r w dc ds => ∃ (F640202 : Nat → va_E) (o640199 : Int32) (f640200 : Nat → Int32), r = some (.ref q640090) ∧ w = va_pl P640088 F640202 ∧ rFr [q640091, q640090] P640088 F640089 F640202 ∧ F640202 q640090 = .inr (1, [.ref q640091, .int 0, .int p640093, .int o640199]) ∧ F640202 q640091 = .inl (I .byte, n640096, .inl f640200) ∧ dc ≤ 0 ∧ ds ≤ 0 ∧ gB o640199 1 16777216 ∧ gF f640200 (-128) 127 ∧ o640199.toInt = p640094.toInt + 1
set_option maxRecDepth 100000 in
set_option maxHeartbeats 4000000 in
theorem cp_640099_StringBuilder_append (l : Launch) (hl0 : l.stackTraces = false) (D : va_G) (I : FieldType → ClassId) (P640088 : List Nat) (F640089 : Nat → va_E) (q640090 : Nat) (q640091 : Nat) (p640092 : Int32) (p640093 : Int32) (p640094 : Int32) (f640095 : Nat → Int32) (n640096 : Nat) (hmq640090 : q640090 ∈ P640088) (hmq640091 : q640091 ∈ P640088) (heq640090 : F640089 q640090 = .inr (1, [.ref q640091, .int 0, .int p640093, .int p640094])) (heq640091 : F640089 q640091 = .inl (I .byte, n640096, .inl f640095)) (bp640092 : gB p640092 0 255) (bp640093 : gB p640093 0 1) (bp640094 : gB p640094 0 16777216) (bf640095 : gF f640095 (-128) 127) (x640097 : p640094.toInt < (n640096 : Int)) (x640098 : ((n640096 : Int) ≤ 16777216)) : CtA (gV D I) l yJ4_append_cf468 cJ4_append_cf468 2 (some (FieldType.object "java/lang/StringBuilder")) 2 43 0 0 [.ref q640090, .int p640092] (va_pl P640088 F640089) (pp_640099_StringBuilder_append D I P640088 F640089 q640090 q640091 p640092 p640093 p640094 f640095 n640096) gNA := by
  refine CtA_ofF hl0 (by decide +kernel) (Nat.le_of_ble_eq_true rfl) ?_
  refine G_aload_n 0 dr_cJ4_append_cf468_0 rfl ?_
  refine G_iload_n 1 dr_cJ4_append_cf468_1 rfl ?_
  refine Gw_callSU (As := [.int p640092]) (gV_ok D I) (cp_640111_AbstractStringBuilder_append l hl0 D I P640088 F640089 q640090 q640091 p640092 p640093 p640094 f640095 n640096 hmq640090 hmq640091 heq640090 heq640091 bp640092 bp640093 bp640094 bf640095 (by have qa0 : Int32.toInt 0 = 0 := (by decide); omega) (by have qa0 : Int32.toInt 0 = 0 := (by decide); omega)) dr_cJ4_append_cf468_2 ⟨wr_8_1, wr_1_19, wr_8_3, by decide, rfl, (Nat.le_of_ble_eq_true rfl), (Nat.le_of_ble_eq_true rfl)⟩ wr_8_2 wr_11_224 wr_7_73 wr_7_44 (by decide) hmq640090 heq640090 rfl (show 0 + 0 ≤ 0 by first | omega | decide) (show 0 + 0 ≤ 0 by first | omega | decide) (Nat.le_of_ble_eq_true rfl) (fun r640188 w640189 dc640185 ds640186 hp640187 => ?_)
  obtain ⟨F640193, o640190, f640191, rfl, rfl, hfr640195, he640196, he640197, hdc, hds, bo640190, bf640191, x640192⟩ := hp640187
  have hfr640198 : rFr [q640091, q640090] P640088 F640089 F640193 := rFr_call (rSub_rf (P := P640088)) (rFr_rf (W := []) (P := P640088) (F := F640089)) hfr640195 (fun b hb hn => ⟨nm_n, (nm_c (fun e => hn (e ▸ List.mem_cons_self)) (nm_c (fun e => hn (e ▸ (List.mem_cons_of_mem _ List.mem_cons_self))) nm_n))⟩)
  change G _ _ _ _ _ _ _ (.ref q640090 :: _) _ _ _
  refine G_widen (cs' := 0) (sl' := 0) (by omega) (by omega) ?_
  refine G_pop dr_cJ4_append_cf468_5 rfl ?_
  refine G_aload_n 0 dr_cJ4_append_cf468_6 rfl ?_
  exact G_aretA (FieldType.object "java/lang/StringBuilder") dr_cJ4_append_cf468_7 rfl (by first | exact Or.inl ⟨_, rfl⟩ | exact Or.inr ⟨_, rfl⟩) (Or.inr ⟨_, rfl⟩) (Nat.le_of_ble_eq_true rfl) (Nat.le_of_ble_eq_true rfl) ⟨F640193, o640190, f640191, rfl, rfl, hfr640198, he640196, he640197, (Nat.le_of_ble_eq_true rfl), (Nat.le_of_ble_eq_true rfl), bo640190, bf640191, (by have qa0 : Int32.toInt 0 = 0 := (by decide); omega)⟩
abbrev ky_640260_AbstractStringBuilder_newCapacity : gKey := (cJ5_newCapacity_0f7a4, 6, "java/lang/AbstractStringBuilder", (some FieldType.int), [], "newCapacity", fun _ _ => True)
def pp_640260_AbstractStringBuilder_newCapacity (D : va_G) (I : FieldType → ClassId) (P640248 : List Nat) (F640249 : Nat → va_E) (q640250 : Nat) (q640251 : Nat) (p640252 : Int32) (p640253 : Int32) (p640254 : Int32) (f640255 : Nat → Int32) (n640256 : Nat) : Option Value → va_W → Nat → Nat → Prop := fun r w dc ds => ∃ (o640274 : Int32), r = some (.int o640274) ∧ w = va_pl P640248 F640249 ∧ dc ≤ 0 ∧ ds ≤ 0 ∧ gB o640274 1 33554432 ∧ p640252.toInt ≤ o640274.toInt ∧ 2 * (n640256 : Int) + 2 ≤ o640274.toInt ∧ (o640274.toInt ≤ 2 * (n640256 : Int) + 2 ∨ o640274.toInt ≤ p640252.toInt)
set_option maxRecDepth 100000 in
set_option maxHeartbeats 4000000 in
theorem cp_640260_AbstractStringBuilder_newCapacity (l : Launch) (hl0 : l.stackTraces = false) (D : va_G) (I : FieldType → ClassId) (P640248 : List Nat) (F640249 : Nat → va_E) (q640250 : Nat) (q640251 : Nat) (p640252 : Int32) (p640253 : Int32) (p640254 : Int32) (f640255 : Nat → Int32) (n640256 : Nat) (hmq640250 : q640250 ∈ P640248) (hmq640251 : q640251 ∈ P640248) (heq640250 : F640249 q640250 = .inr (1, [.ref q640251, .int 0, .int p640253, .int p640254])) (heq640251 : F640249 q640251 = .inl (I .byte, n640256, .inl f640255)) (bp640252 : gB p640252 0 8388608) (bp640253 : gB p640253 0 1) (bp640254 : gB p640254 0 16777216) (bf640255 : gF f640255 (-128) 127) (x640257 : (n640256 : Int) < p640252.toInt) (x640258 : (n640256 : Int) ≤ 8388608) (x640259 : ((n640256 : Int) ≤ 16777216)) : CtA (gV D I) l yJ5_newCapacity_0f7a4 cJ5_newCapacity_0f7a4 6 (some FieldType.int) 2 37 0 0 [.ref q640250, .int p640252] (va_pl P640248 F640249) (pp_640260_AbstractStringBuilder_newCapacity D I P640248 F640249 q640250 q640251 p640252 p640253 p640254 f640255 n640256) gNA := by
  refine CtA_ofF hl0 (by decide +kernel) (Nat.le_of_ble_eq_true rfl) ?_
  refine G_aload_n 0 dr_cJ5_newCapacity_0f7a4_0 rfl ?_
  refine Gp_get 0 hmq640250 heq640250 dr_cJ5_newCapacity_0f7a4_1 (gk_J4 D I) (Nat.le_of_ble_eq_true rfl) wr_7_60 rfl ?_
  refine Gp_alen (Int32.ofNat n640256) 1 hmq640251 heq640251 dr_cJ5_newCapacity_0f7a4_4 rfl rfl (G_nam fun z640261 hz640261 => ?_)
  have ez640261 : z640261.toInt = (n640256 : Nat) := gI_ofM hz640261 (by omega)
  have bz640261 : gB z640261 0 16777216 := ⟨by omega, by omega⟩
  refine G_istore_n (L' := [(2, .int z640261), (0, .ref q640250), (1, .int p640252)]) dr_cJ5_newCapacity_0f7a4_5 (Nat.le_of_ble_eq_true rfl) rfl ?_
  refine G_iload_n 2 dr_cJ5_newCapacity_0f7a4_6 rfl ?_
  refine G_aload_n 1 dr_cJ5_newCapacity_0f7a4_7 rfl ?_
  refine Gp_get 1 hmq640250 heq640250 dr_cJ5_newCapacity_0f7a4_8 (gk_J4 D I) (Nat.le_of_ble_eq_true rfl) wr_7_61 rfl ?_
  refine G_ishl dr_cJ5_newCapacity_0f7a4_11 (G_nam fun z640262 hz640262 => ?_)
  have ez640262 : z640262.toInt = p640252.toInt * 1 := gI_shl (k := 0) hz640262 (by decide) bp640252 (by decide) (by decide)
  have bz640262 : gB z640262 0 8388608 := ⟨by omega, by omega⟩
  refine G_istore_n (L' := [(3, .int z640262), (2, .int z640261), (0, .ref q640250), (1, .int p640252)]) dr_cJ5_newCapacity_0f7a4_12 (Nat.le_of_ble_eq_true rfl) rfl ?_
  refine G_iload_n 0 dr_cJ5_newCapacity_0f7a4_13 rfl ?_
  refine G_iload_n 1 dr_cJ5_newCapacity_0f7a4_14 rfl ?_
  refine G_isub dr_cJ5_newCapacity_0f7a4_15 (G_nam fun z640263 hz640263 => ?_)
  have ez640263 : z640263.toInt = z640262.toInt - z640261.toInt := by rw [gI_sub hz640263 bz640262 bz640261 (by decide) (by decide)]
  have bz640263 : gB z640263 (-16777216) 8388608 := gB_sub (gI_sub hz640263 bz640262 bz640261 (by decide) (by decide)) bz640262 bz640261 (by decide) (by decide)
  refine G_istore (L' := [(4, .int z640263), (3, .int z640262), (2, .int z640261), (0, .ref q640250), (1, .int p640252)]) dr_cJ5_newCapacity_0f7a4_16 (Nat.le_of_ble_eq_true rfl) rfl ?_
  refine G_iload_n 2 dr_cJ5_newCapacity_0f7a4_18 rfl ?_
  refine G_iload 0 dr_cJ5_newCapacity_0f7a4_19 rfl ?_
  refine G_iload_n 2 dr_cJ5_newCapacity_0f7a4_21 rfl ?_
  refine G_iconst 2 dr_cJ5_newCapacity_0f7a4_22 (by decide +kernel) ?_
  refine G_aload_n 3 dr_cJ5_newCapacity_0f7a4_23 rfl ?_
  refine Gp_get 1 hmq640250 heq640250 dr_cJ5_newCapacity_0f7a4_24 (gk_J4 D I) (Nat.le_of_ble_eq_true rfl) wr_7_61 rfl ?_
  refine G_ishl dr_cJ5_newCapacity_0f7a4_27 (G_nam fun z640264 hz640264 => ?_)
  have ez640264 : z640264.toInt = 2 * 1 := gI_shl (k := 0) hz640264 (by decide) (gBl (show Int32.toInt 2 = 2 by decide)) (by decide) (by decide)
  have bz640264 : gB z640264 2 2 := ⟨by omega, by omega⟩
  refine G_iadd dr_cJ5_newCapacity_0f7a4_28 (G_nam fun z640265 hz640265 => ?_)
  have ez640265 : z640265.toInt = z640261.toInt + z640264.toInt := by rw [gI_add hz640265 bz640261 bz640264 (by decide) (by decide)]
  have bz640265 : gB z640265 2 16777218 := gB_add (gI_add hz640265 bz640261 bz640264 (by decide) (by decide)) bz640261 bz640264 (by decide) (by decide)
  refine Gw_callS (As := [.int z640261, .int z640263, .int z640265]) (gV_ok D I) (cp_353_ArraysSupport_newLength l hl0 D I P640248 F640249 z640261 z640263 z640265 bz640261 ⟨by omega, by omega⟩ ⟨by omega, by omega⟩) dr_cJ5_newCapacity_0f7a4_29 ⟨wr_8_12, wr_1_33, wr_8_14, by decide, rfl, (Nat.le_of_ble_eq_true rfl), (Nat.le_of_ble_eq_true rfl)⟩ wr_8_13 (show 0 + 0 ≤ 0 by first | omega | decide) (show 0 + 0 ≤ 0 by first | omega | decide) (Nat.le_of_ble_eq_true rfl) (fun r640269 w640270 dc640266 ds640267 hp640268 => ?_) (fun _ _ _ _ _ z => z.elim)
  obtain ⟨o640271, rfl, rfl, hdc, hds, bo640271, x640272⟩ := hp640268
  change G _ _ _ _ _ _ _ (.int o640271 :: _) _ _ _
  refine G_widen (cs' := 0) (sl' := 0) (by omega) (by omega) ?_
  refine G_istore (L' := [(5, .int o640271), (4, .int z640263), (3, .int z640262), (2, .int z640261), (0, .ref q640250), (1, .int p640252)]) dr_cJ5_newCapacity_0f7a4_32 (Nat.le_of_ble_eq_true rfl) rfl ?_
  refine G_iload 0 dr_cJ5_newCapacity_0f7a4_34 rfl ?_
  refine G_ldc 2147483647 dr_cJ5_newCapacity_0f7a4_36 wr_8_20 ?_
  refine G_icmp_ne 51 dr_cJ5_newCapacity_0f7a4_38 (by decide +kernel) (fun _ => ?_) (fun hc => absurd (show False by have := gj_eq hc (show Int32.toInt 2147483647 = 2147483647 by decide); omega) not_false)
  refine G_iload 0 dr_cJ5_newCapacity_0f7a4_51 rfl ?_
  refine G_aload_n 4 dr_cJ5_newCapacity_0f7a4_53 rfl ?_
  refine Gp_get 1 hmq640250 heq640250 dr_cJ5_newCapacity_0f7a4_54 (gk_J4 D I) (Nat.le_of_ble_eq_true rfl) wr_7_61 rfl ?_
  refine G_ishr dr_cJ5_newCapacity_0f7a4_57 (G_nam fun z640273 hz640273 => ?_)
  have ez640273 : z640273.toInt = o640271.toInt / 1 := gI_shr (k := 0) hz640273 (by decide)
  have bz640273 : gB z640273 1 33554432 := ⟨by omega, by omega⟩
  exact G_iretA dr_cJ5_newCapacity_0f7a4_58 rfl (Nat.le_of_ble_eq_true rfl) (Nat.le_of_ble_eq_true rfl) ⟨z640273, rfl, rfl, (Nat.le_of_ble_eq_true rfl), (Nat.le_of_ble_eq_true rfl), bz640273, (by have qa0 : Int32.toInt 0 = 0 := (by decide); omega), (by have qa0 : Int32.toInt 0 = 0 := (by decide); omega), (by have qa0 : Int32.toInt 0 = 0 := (by decide); omega)⟩
abbrev ky_640293_Arrays_copyOf : gKey := (cJ7_copyOf_9075b, 3, "java/util/Arrays", (some (FieldType.array FieldType.byte)), [], "copyOf", fun _ _ => True)
def pp_640293_Arrays_copyOf (D : va_G) (I : FieldType → ClassId) (P640285 : List Nat) (F640286 : Nat → va_E) (q640287 : Nat) (p640288 : Int32) (f640289 : Nat → Int32) (n640290 : Nat) : Option Value → va_W → Nat → Nat → Prop := fun r w dc ds => ∃ (P640323 : List Nat) (F640324 : Nat → va_E) (q640321 : Nat) (f640322 : Nat → Int32), r = some (.ref q640321) ∧ w = va_pl P640323 F640324 ∧ rSub P640285 P640323 ∧ rFr [] P640285 F640286 F640324 ∧ F640324 q640287 = .inl (I .byte, n640290, .inl f640289) ∧ F640324 q640321 = .inl (I .byte, p640288.toInt.toNat, .inl f640322) ∧ q640321 ∈ P640323 ∧ q640321 ∉ P640285 ∧ dc ≤ 1 ∧ ds ≤ p640288.toInt.toNat ∧ gF f640322 (-128) 127
set_option maxRecDepth 100000 in
set_option maxHeartbeats 4000000 in
theorem cp_640293_Arrays_copyOf (l : Launch) (hl0 : l.stackTraces = false) (D : va_G) (I : FieldType → ClassId) (P640285 : List Nat) (F640286 : Nat → va_E) (q640287 : Nat) (p640288 : Int32) (f640289 : Nat → Int32) (n640290 : Nat) (hmq640287 : q640287 ∈ P640285) (heq640287 : F640286 q640287 = .inl (I .byte, n640290, .inl f640289)) (bp640288 : gB p640288 0 33554432) (bf640289 : gF f640289 (-128) 127) (x640291 : (n640290 : Int) < p640288.toInt) (x640292 : ((n640290 : Int) ≤ 16777216)) : CtA (gV D I) l yJ7_copyOf_9075b cJ7_copyOf_9075b 3 (some (FieldType.array FieldType.byte)) 1 18 1 p640288.toInt.toNat [.ref q640287, .int p640288] (va_pl P640285 F640286) (pp_640293_Arrays_copyOf D I P640285 F640286 q640287 p640288 f640289 n640290) gNA := by
  refine CtA_ofF hl0 (by decide +kernel) (Nat.le_of_ble_eq_true rfl) ?_
  refine G_iload_n 1 dr_cJ7_copyOf_9075b_0 rfl ?_
  refine G_aload_n 0 dr_cJ7_copyOf_9075b_1 rfl ?_
  refine Gp_alen (Int32.ofNat n640290) 1 hmq640287 heq640287 dr_cJ7_copyOf_9075b_2 rfl rfl (G_nam fun z640294 hz640294 => ?_)
  have ez640294 : z640294.toInt = (n640290 : Nat) := gI_ofM hz640294 (by omega)
  have bz640294 : gB z640294 0 16777216 := ⟨by omega, by omega⟩
  refine G_icmp_ne 14 dr_cJ7_copyOf_9075b_3 (by decide +kernel) (fun hc640295 => ?_) (fun hc => absurd (show False by have := gC_eq hc; omega) not_false)
  have r640297 : p640288.toInt ≠ z640294.toInt := gC_ne hc640295
  refine G_iload_n 1 dr_cJ7_copyOf_9075b_14 rfl ?_
  refine G_newa 1 (p640288.toInt.toNat, .inl (fun _ => 0)) dr_cJ7_copyOf_9075b_15 rfl rfl (by intro C h; cases h) wr_1_66 (fun _ => ga_byte _ _) (g_n0 (by omega)) rfl (show p640288.toInt.toNat * 1 ≤ 536870912 by omega) (show 0 + 1 ≤ 1 by first | omega | decide) (show 0 + p640288.toInt.toNat ≤ p640288.toInt.toNat by first | omega | decide) (fun q640298 => Gp_in (fun P640299 F640300 hq640301 hP640302 e640303 n640304 => ?_))
  refine G_widen (cs' := 1) (sl' := p640288.toInt.toNat) (by omega) (by omega) ?_
  have he640305 : F640300 q640287 = .inl (I .byte, n640290, .inl f640289) := (n640304 q640287 (fun h => hq640301 (h ▸ hmq640287))).trans heq640287
  have he640306 : F640300 q640298 = .inl (I .byte, p640288.toInt.toNat, .inl (fun _ => 0)) := e640303
  have hm640307 : q640287 ∈ P640299 := (hP640302 q640287).mpr (Or.inl hmq640287)
  have hm640308 : q640298 ∈ P640299 := (hP640302 q640298).mpr (Or.inr rfl)
  have hq640309 : q640298 ∉ P640285 := fun z => hq640301 ((rSub_rf (P := P640285)) q640298 z)
  have hfr640310 : rFr [] P640285 F640286 F640300 := rFr_new (rSub_rf (P := P640285)) hq640301 (rFr_rf (W := []) (P := P640285) (F := F640286)) n640304
  have hsb640311 : rSub P640285 P640299 := rSub_new (rSub_rf (P := P640285)) hP640302
  refine G_astore_n (L' := [(2, .ref q640298), (0, .ref q640287), (1, .int p640288)]) dr_cJ7_copyOf_9075b_17 (Nat.le_of_ble_eq_true rfl) rfl ?_
  refine G_aload_n 1 dr_cJ7_copyOf_9075b_18 rfl ?_
  refine G_iconst 0 dr_cJ7_copyOf_9075b_19 (by decide +kernel) ?_
  refine G_aload_n 0 dr_cJ7_copyOf_9075b_20 rfl ?_
  refine G_iconst 0 dr_cJ7_copyOf_9075b_21 (by decide +kernel) ?_
  refine G_aload_n 1 dr_cJ7_copyOf_9075b_22 rfl ?_
  refine Gp_alen (Int32.ofNat n640290) 1 hm640307 he640305 dr_cJ7_copyOf_9075b_23 rfl rfl (G_nam fun z640312 hz640312 => ?_)
  have ez640312 : z640312.toInt = (n640290 : Nat) := gI_ofM hz640312 (by omega)
  have bz640312 : gB z640312 0 16777216 := ⟨by omega, by omega⟩
  refine G_iload_n 2 dr_cJ7_copyOf_9075b_24 rfl ?_
  refine G_mmin dr_cJ7_copyOf_9075b_25 wr_8_31 wr_3_227 wr_1_6 wr_3_228 (Nat.le_of_ble_eq_true rfl) (Nat.le_of_ble_eq_true rfl) (show 1 ≤ 1 by first | omega | decide) (show p640288.toInt.toNat ≤ p640288.toInt.toNat by first | omega | decide) (G_nam fun z640313 hz640313 => ?_)
  have ez640313 : z640312.toInt ≥ z640313.toInt ∧ p640288.toInt ≥ z640313.toInt ∧ (z640313.toInt = z640312.toInt ∨ z640313.toInt = p640288.toInt) := by have := gI_min hz640313; omega
  have bz640313 : gB z640313 0 16777216 := ⟨by omega, by omega⟩
  refine Gp_copyp 1 hm640307 hm640308 he640305 he640306 dr_cJ7_copyOf_9075b_28 wr_8_32 wr_5_113 wr_5_112 wr_1_34 rfl rfl (fun j => gT_byte (bf640289 j)) (by decide) (by decide) (by omega) (by have qa0 : Int32.toInt 0 = 0 := (by decide); omega) (by have qa0 : Int32.toInt 0 = 0 := (by decide); omega) (Nat.le_of_ble_eq_true rfl) (Nat.le_of_ble_eq_true rfl) (fun F640314 e640315 n640316 => ?_)
  obtain ⟨f640317, hf640317⟩ : ∃ z, z = va_cpy f640289 (fun _ => 0) (0 : Int32).toNatClampNeg (0 : Int32).toNatClampNeg z640313.toNatClampNeg := ⟨_, rfl⟩
  rw [← hf640317] at e640315
  have bf640317 : gF f640317 (-128) 127 := gF_cpy hf640317 bf640289 (gF_w gF_0 (by decide) (by decide))
  have he640318 : F640314 q640287 = .inl (I .byte, n640290, .inl f640289) := (n640316 q640287 (fun h => hq640309 (h ▸ hmq640287))).trans he640305
  have he640319 : F640314 q640298 = .inl (I .byte, p640288.toInt.toNat, .inl f640317) := e640315
  have hfr640320 : rFr [] P640285 F640286 F640314 := rFr_newp hq640309 hfr640310 n640316
  refine G_aload_n 0 dr_cJ7_copyOf_9075b_31 rfl ?_
  exact G_aretA (FieldType.array FieldType.byte) dr_cJ7_copyOf_9075b_32 rfl (by first | exact Or.inl ⟨_, rfl⟩ | exact Or.inr ⟨_, rfl⟩) (Or.inr ⟨_, rfl⟩) (Nat.le_of_ble_eq_true rfl) (show p640288.toInt.toNat ≤ p640288.toInt.toNat by omega) ⟨P640299, F640314, q640298, f640317, rfl, rfl, hsb640311, hfr640320, he640318, he640319, hm640308, hq640309, (Nat.le_of_ble_eq_true rfl), (by omega), bf640317⟩
abbrev ky_640241_AbstractStringBuilder_ensureCapacityInternal : gKey := (cJ5_ensureCapacityInternal_d00df, 3, "java/lang/AbstractStringBuilder", none, [], "ensureCapacityInternal", fun _ _ => True)
def pp_640241_AbstractStringBuilder_ensureCapacityInternal (D : va_G) (I : FieldType → ClassId) (P640230 : List Nat) (F640231 : Nat → va_E) (q640232 : Nat) (q640233 : Nat) (p640234 : Int32) (p640235 : Int32) (p640236 : Int32) (f640237 : Nat → Int32) (n640238 : Nat) : Option Value → va_W → Nat → Nat → Prop := fun r w dc ds => ∃ (P640356 : List Nat) (F640357 : Nat → va_E) (q640353 : Nat) (n640354 : Nat) (f640355 : Nat → Int32), r = none ∧ w = va_pl P640356 F640357 ∧ rSub P640230 P640356 ∧ rFr [q640232] P640230 F640231 F640357 ∧ F640357 q640232 = .inr (1, [.ref q640353, .int 0, .int p640235, .int p640236]) ∧ F640357 q640353 = .inl (I .byte, n640354, .inl f640355) ∧ q640353 ∈ P640356 ∧ (q640353 = q640233 ∨ q640353 ∉ P640230) ∧ dc ≤ 1 ∧ ds ≤ 2 * (n640354 - n640238) ∧ gF f640355 (-128) 127 ∧ p640234.toInt ≤ (n640354 : Int) ∧ (n640238 : Int) ≤ (n640354 : Int) ∧ ((n640354 : Int) = (n640238 : Int) ∨ (n640238 : Int) < p640234.toInt) ∧ ((n640354 : Int) ≤ 2 * (n640238 : Int) + 2 ∨ (n640354 : Int) ≤ p640234.toInt)
set_option maxRecDepth 100000 in
set_option maxHeartbeats 4000000 in
theorem cp_640241_AbstractStringBuilder_ensureCapacityInternal (l : Launch) (hl0 : l.stackTraces = false) (D : va_G) (I : FieldType → ClassId) (P640230 : List Nat) (F640231 : Nat → va_E) (q640232 : Nat) (q640233 : Nat) (p640234 : Int32) (p640235 : Int32) (p640236 : Int32) (f640237 : Nat → Int32) (n640238 : Nat) (hmq640232 : q640232 ∈ P640230) (hmq640233 : q640233 ∈ P640230) (heq640232 : F640231 q640232 = .inr (1, [.ref q640233, .int 0, .int p640235, .int p640236])) (heq640233 : F640231 q640233 = .inl (I .byte, n640238, .inl f640237)) (bp640234 : gB p640234 0 8388608) (bp640235 : gB p640235 0 1) (bp640236 : gB p640236 0 16777216) (bf640237 : gF f640237 (-128) 127) (x640239 : (n640238 : Int) ≤ 8388608) (x640240 : ((n640238 : Int) ≤ 16777216)) : CtA (gV D I) l yJ5_ensureCapacityInternal_d00df cJ5_ensureCapacityInternal_d00df 3 none 3 62 1 (2 * n640238 + 2 + p640234.toInt.toNat) [.ref q640232, .int p640234] (va_pl P640230 F640231) (pp_640241_AbstractStringBuilder_ensureCapacityInternal D I P640230 F640231 q640232 q640233 p640234 p640235 p640236 f640237 n640238) gNA := by
  refine CtA_ofF hl0 (by decide +kernel) (Nat.le_of_ble_eq_true rfl) ?_
  refine G_aload_n 0 dr_cJ5_ensureCapacityInternal_d00df_0 rfl ?_
  refine Gp_get 0 hmq640232 heq640232 dr_cJ5_ensureCapacityInternal_d00df_1 (gk_J4 D I) (Nat.le_of_ble_eq_true rfl) wr_7_60 rfl ?_
  refine Gp_alen (Int32.ofNat n640238) 1 hmq640233 heq640233 dr_cJ5_ensureCapacityInternal_d00df_4 rfl rfl (G_nam fun z640242 hz640242 => ?_)
  have ez640242 : z640242.toInt = (n640238 : Nat) := gI_ofM hz640242 (by omega)
  have bz640242 : gB z640242 0 16777216 := ⟨by omega, by omega⟩
  refine G_aload_n 0 dr_cJ5_ensureCapacityInternal_d00df_5 rfl ?_
  refine Gp_get 1 hmq640232 heq640232 dr_cJ5_ensureCapacityInternal_d00df_6 (gk_J4 D I) (Nat.le_of_ble_eq_true rfl) wr_7_61 rfl ?_
  refine G_ishr dr_cJ5_ensureCapacityInternal_d00df_9 (G_nam fun z640243 hz640243 => ?_)
  have ez640243 : z640243.toInt = z640242.toInt / 1 := gI_shr (k := 0) hz640243 (by decide)
  have bz640243 : gB z640243 0 16777216 := ⟨by omega, by omega⟩
  refine G_istore_n (L' := [(2, .int z640243), (0, .ref q640232), (1, .int p640234)]) dr_cJ5_ensureCapacityInternal_d00df_10 (Nat.le_of_ble_eq_true rfl) rfl ?_
  refine G_iload_n 2 dr_cJ5_ensureCapacityInternal_d00df_11 rfl ?_
  refine G_iload_n 0 dr_cJ5_ensureCapacityInternal_d00df_12 rfl ?_
  refine G_isub dr_cJ5_ensureCapacityInternal_d00df_13 (G_nam fun z640244 hz640244 => ?_)
  have ez640244 : z640244.toInt = p640234.toInt - z640243.toInt := by rw [gI_sub hz640244 bp640234 bz640243 (by decide) (by decide)]
  have bz640244 : gB z640244 (-16777216) 8388608 := gB_sub (gI_sub hz640244 bp640234 bz640243 (by decide) (by decide)) bp640234 bz640243 (by decide) (by decide)
  refine G_if_le 38 dr_cJ5_ensureCapacityInternal_d00df_14 (by decide +kernel) (fun hc640245 => ?_) (fun hc640245 => ?_)
  · have r640246 : z640244.toInt ≤ 0 := gj_le hc640245 (show Int32.toInt 0 = 0 by decide)
    have bz640244' : gB z640244 (-16777216) 0 := ⟨by omega, by omega⟩
    exact G_vretA dr_cJ5_ensureCapacityInternal_d00df_38 rfl (Nat.le_of_ble_eq_true rfl) (Nat.le_of_ble_eq_true rfl) ⟨P640230, F640231, q640233, n640238, f640237, rfl, rfl, (rSub_rf (P := P640230)), (rFr_v (rFr_rf (W := []) (P := P640230) (F := F640231)) (fun b hn => nm_n)), heq640232, heq640233, hmq640233, (Or.inl rfl), (Nat.le_of_ble_eq_true rfl), (by omega), bf640237, (by have qa0 : Int32.toInt 0 = 0 := (by decide); omega), (by have qa0 : Int32.toInt 0 = 0 := (by decide); omega), (by have qa0 : Int32.toInt 0 = 0 := (by decide); omega), (by have qa0 : Int32.toInt 0 = 0 := (by decide); omega)⟩
  · have r640247 : 0 < z640244.toInt := gj_nle hc640245 (show Int32.toInt 0 = 0 by decide)
    have bz640244' : gB z640244 1 8388608 := ⟨by omega, by omega⟩
    refine G_aload_n 1 dr_cJ5_ensureCapacityInternal_d00df_17 rfl ?_
    refine G_aload_n 1 dr_cJ5_ensureCapacityInternal_d00df_18 rfl ?_
    refine Gp_get 0 hmq640232 heq640232 dr_cJ5_ensureCapacityInternal_d00df_19 (gk_J4 D I) (Nat.le_of_ble_eq_true rfl) wr_7_60 rfl ?_
    refine G_aload_n 1 dr_cJ5_ensureCapacityInternal_d00df_22 rfl ?_
    refine G_iload_n 2 dr_cJ5_ensureCapacityInternal_d00df_23 rfl ?_
    refine Gw_callVB (As := [.int p640234]) (gV_ok D I) (cp_640260_AbstractStringBuilder_newCapacity l hl0 D I P640230 F640231 q640232 q640233 p640234 p640235 p640236 f640237 n640238 hmq640232 hmq640233 heq640232 heq640233 bp640234 bp640235 bp640236 bf640237 (by have qa0 : Int32.toInt 0 = 0 := (by decide); omega) (by have qa0 : Int32.toInt 0 = 0 := (by decide); omega) (by have qa0 : Int32.toInt 0 = 0 := (by decide); omega)) dr_cJ5_ensureCapacityInternal_d00df_24 ⟨wr_8_8, wr_1_19, wr_8_11, by decide, rfl, (Nat.le_of_ble_eq_true rfl), (Nat.le_of_ble_eq_true rfl)⟩ wr_8_10 wr_s_1 hmq640232 heq640232 rfl (show 0 + 0 ≤ 1 by first | omega | decide) (show 0 + 0 ≤ (2 * n640238 + 2 + p640234.toInt.toNat) by first | omega | decide) (Nat.le_of_ble_eq_true rfl) (fun r640278 w640279 dc640275 ds640276 hp640277 => ?_) (fun _ _ _ _ _ z => z.elim)
    obtain ⟨o640280, rfl, rfl, hdc, hds, bo640280, x640281, x640282, x640283⟩ := hp640277
    change G _ _ _ _ _ _ _ (.int o640280 :: _) _ _ _
    refine G_widen (cs' := 0) (sl' := 0) (by omega) (by omega) ?_
    refine G_aload_n 1 dr_cJ5_ensureCapacityInternal_d00df_27 rfl ?_
    refine Gp_get 1 hmq640232 heq640232 dr_cJ5_ensureCapacityInternal_d00df_28 (gk_J4 D I) (Nat.le_of_ble_eq_true rfl) wr_7_61 rfl ?_
    refine G_ishl dr_cJ5_ensureCapacityInternal_d00df_31 (G_nam fun z640284 hz640284 => ?_)
    have ez640284 : z640284.toInt = o640280.toInt * 1 := gI_shl (k := 0) hz640284 (by decide) bo640280 (by decide) (by decide)
    have bz640284 : gB z640284 1 33554432 := ⟨by omega, by omega⟩
    refine Gw_callS (As := [.ref q640233, .int z640284]) (gV_ok D I) (cp_640293_Arrays_copyOf l hl0 D I P640230 F640231 q640233 z640284 f640237 n640238 hmq640233 heq640233 (gB_w bz640284 (by decide) (by decide)) bf640237 (by have qa0 : Int32.toInt 0 = 0 := (by decide); omega) (by have qa0 : Int32.toInt 0 = 0 := (by decide); omega)) dr_cJ5_ensureCapacityInternal_d00df_32 ⟨wr_8_21, wr_1_30, wr_8_23, by decide, rfl, (Nat.le_of_ble_eq_true rfl), (Nat.le_of_ble_eq_true rfl)⟩ wr_8_22 (show 0 + 1 ≤ 1 by first | omega | decide) (show 0 + z640284.toInt.toNat ≤ (2 * n640238 + 2 + p640234.toInt.toNat) by first | omega | decide) (Nat.le_of_ble_eq_true rfl) (fun r640328 w640329 dc640325 ds640326 hp640327 => ?_) (fun _ _ _ _ _ z => z.elim)
    obtain ⟨P640332, F640333, q640330, f640331, rfl, rfl, hsb640334, hfr640335, he640336, he640337, hm640338, hq640339, hdc, hds, bf640331⟩ := hp640327
    have hm640340 : q640232 ∈ P640332 := hsb640334 q640232 hmq640232
    have hm640341 : q640233 ∈ P640332 := hsb640334 q640233 hmq640233
    have hq640342 : q640330 ∉ P640230 := fun z => hq640339 ((rSub_rf (P := P640230)) q640330 z)
    have hsb640343 : rSub P640230 P640332 := rSub_tr (rSub_rf (P := P640230)) hsb640334
    have he640344 : F640333 q640232 = .inr (1, [.ref q640233, .int 0, .int p640235, .int p640236]) := (hfr640335 q640232 hmq640232 nm_n).trans heq640232
    have hfr640345 : rFr [] P640230 F640231 F640333 := rFr_call (rSub_rf (P := P640230)) (rFr_rf (W := []) (P := P640230) (F := F640231)) hfr640335 (fun b hb hn => ⟨nm_n, nm_n⟩)
    change G _ _ _ _ _ _ _ (.ref q640330 :: _) _ _ _
    refine G_widen (cs' := 1) (sl' := z640284.toInt.toNat) (by omega) (by omega) ?_
    refine Gp_put 0 hm640340 he640344 dr_cJ5_ensureCapacityInternal_d00df_35 (gk_J4 D I) (Nat.le_of_ble_eq_true rfl) wr_7_60 rfl rfl rfl (Nat.le_of_ble_eq_true rfl) (fun F640346 e640347 n640348 => ?_)
    have he640349 : F640346 q640233 = .inl (I .byte, n640238, .inl f640237) := (n640348 q640233 (rn_ao he640336 he640344)).trans he640336
    have he640350 : F640346 q640330 = .inl (I .byte, z640284.toInt.toNat, .inl f640331) := (n640348 q640330 (fun h => hq640342 (h ▸ hmq640232))).trans he640337
    have he640351 : F640346 q640232 = .inr (1, [.ref q640330, .int 0, .int p640235, .int p640236]) := e640347
    have hfr640352 : rFr [q640232] P640230 F640231 F640346 := rFr_put hfr640345 n640348
    exact G_vretA dr_cJ5_ensureCapacityInternal_d00df_38 rfl (Nat.le_of_ble_eq_true rfl) (show z640284.toInt.toNat ≤ (2 * n640238 + 2 + p640234.toInt.toNat) by omega) ⟨P640332, F640346, q640330, z640284.toInt.toNat, f640331, rfl, rfl, hsb640343, hfr640352, he640351, he640350, hm640338, (Or.inr hq640342), (Nat.le_of_ble_eq_true rfl), (by omega), bf640331, (by have qa0 : Int32.toInt 0 = 0 := (by decide); omega), (by have qa0 : Int32.toInt 0 = 0 := (by decide); omega), (by have qa0 : Int32.toInt 0 = 0 := (by decide); omega), (by have qa0 : Int32.toInt 0 = 0 := (by decide); omega)⟩
