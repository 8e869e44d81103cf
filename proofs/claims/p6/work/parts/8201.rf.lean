theorem dr_cJ5_length_8abf5_0 : decode cJ5_length_8abf5 0 = .ok (.aload_n 0, 1) := by decide +kernel
theorem dr_cJ5_length_8abf5_1 : decode cJ5_length_8abf5 1 = .ok (.getfield 79, 3) := by decide +kernel
theorem wr_7_64 : (Jvm.Cond.fieldLink "java/lang/AbstractStringBuilder" (79 : Nat) "java/lang/AbstractStringBuilder" "count" "I") ∈ gw := gw_7 64 rfl rfl
theorem dr_cJ5_length_8abf5_4 : decode cJ5_length_8abf5 4 = .ok (.ireturn, 1) := by decide +kernel
theorem dr_cJ4_length_8abf5_0 : decode cJ4_length_8abf5 0 = .ok (.aload_n 0, 1) := by decide +kernel
theorem dr_cJ4_length_8abf5_1 : decode cJ4_length_8abf5 1 = .ok (.invokespecial 343, 3) := by decide +kernel
theorem wr_8_90 : (Jvm.Cond.methodLink "java/lang/StringBuilder" (343 : Nat) ({ cls := "java/lang/AbstractStringBuilder", name := "length", desc := "()I" } : Jvm.MethodName)) ∈ gw := gw_8 90 rfl rfl
theorem wr_1_19 : (Jvm.Cond.initialized "java/lang/AbstractStringBuilder") ∈ gw := gw_1 19 rfl rfl
theorem wr_8_91 : (Jvm.Cond.code ({ cls := "java/lang/AbstractStringBuilder", name := "length", desc := "()I" } : Jvm.MethodName) prog_21_method_6_code (1 : Nat) (Option.some Jvm.ClassFile.FieldType.int)) ∈ gw := gw_8 91 rfl rfl
theorem wr_8_85 : (Jvm.Cond.instanceMethod ({ cls := "java/lang/AbstractStringBuilder", name := "length", desc := "()I" } : Jvm.MethodName)) ∈ gw := gw_8 85 rfl rfl
theorem wr_8_86 : (Jvm.Cond.sameMethod "java/lang/AbstractStringBuilder" "java/lang/AbstractStringBuilder" "length" "()I") ∈ gw := gw_8 86 rfl rfl
theorem wr_7_73 : (Jvm.Cond.superclass "java/lang/StringBuilder" "java/lang/AbstractStringBuilder") ∈ gw := gw_7 73 rfl rfl
theorem wr_7_44 : (Jvm.Cond.instantiable "java/lang/StringBuilder" (4 : Nat)) ∈ gw := gw_7 44 rfl rfl
theorem dr_cJ4_length_8abf5_4 : decode cJ4_length_8abf5 4 = .ok (.ireturn, 1) := by decide +kernel
theorem dr_cJ0_checkIndex_df160_0 : decode cJ0_checkIndex_df160 0 = .ok (.iload_n 0, 1) := by decide +kernel
theorem dr_cJ0_checkIndex_df160_1 : decode cJ0_checkIndex_df160 1 = .ok (.iload_n 1, 1) := by decide +kernel
theorem dr_cJ0_checkIndex_df160_2 : decode cJ0_checkIndex_df160 2 = .ok (.getstatic 1053, 3) := by decide +kernel
theorem wr_3_81 : (Jvm.Cond.fieldLink "java/lang/String" (1053 : Nat) "jdk/internal/util/Preconditions" "SIOOBE_FORMATTER" "Ljava/util/function/BiFunction;") ∈ gw := gw_3 81 rfl rfl
theorem dr_cJ0_checkIndex_df160_5 : decode cJ0_checkIndex_df160 5 = .ok (.invokestatic 1059, 3) := by decide +kernel
theorem wr_3_83 : (Jvm.Cond.methodLink "java/lang/String" (1059 : Nat) ({ cls := "jdk/internal/util/Preconditions", name := "checkIndex", desc := "(IILjava/util/function/BiFunction;)I" } : Jvm.MethodName)) ∈ gw := gw_3 83 rfl rfl
theorem dr_cJ0_checkIndex_df160_8 : decode cJ0_checkIndex_df160 8 = .ok (.pop, 1) := by decide +kernel
theorem dr_cJ0_checkIndex_df160_9 : decode cJ0_checkIndex_df160 9 = .ok (.return_, 1) := by decide +kernel
theorem dr_cJ5_charAt_5068e_0 : decode cJ5_charAt_5068e 0 = .ok (.aload_n 0, 1) := by decide +kernel
theorem dr_cJ5_charAt_5068e_1 : decode cJ5_charAt_5068e 1 = .ok (.getfield 22, 3) := by decide +kernel
theorem wr_7_61 : (Jvm.Cond.fieldLink "java/lang/AbstractStringBuilder" (22 : Nat) "java/lang/AbstractStringBuilder" "coder" "B") ∈ gw := gw_7 61 rfl rfl
theorem dr_cJ5_charAt_5068e_4 : decode cJ5_charAt_5068e 4 = .ok (.istore_n 2, 1) := by decide +kernel
theorem dr_cJ5_charAt_5068e_5 : decode cJ5_charAt_5068e 5 = .ok (.aload_n 0, 1) := by decide +kernel
theorem dr_cJ5_charAt_5068e_6 : decode cJ5_charAt_5068e 6 = .ok (.getfield 15, 3) := by decide +kernel
theorem wr_7_60 : (Jvm.Cond.fieldLink "java/lang/AbstractStringBuilder" (15 : Nat) "java/lang/AbstractStringBuilder" "value" "[B") ∈ gw := gw_7 60 rfl rfl
theorem dr_cJ5_charAt_5068e_9 : decode cJ5_charAt_5068e 9 = .ok (.astore_n 3, 1) := by decide +kernel
theorem dr_cJ5_charAt_5068e_10 : decode cJ5_charAt_5068e 10 = .ok (.aload_n 0, 1) := by decide +kernel
theorem dr_cJ5_charAt_5068e_11 : decode cJ5_charAt_5068e 11 = .ok (.getfield 79, 3) := by decide +kernel
theorem dr_cJ5_charAt_5068e_14 : decode cJ5_charAt_5068e 14 = .ok (.aload_n 3, 1) := by decide +kernel
theorem dr_cJ5_charAt_5068e_15 : decode cJ5_charAt_5068e 15 = .ok (.arraylength, 1) := by decide +kernel
theorem dr_cJ5_charAt_5068e_16 : decode cJ5_charAt_5068e 16 = .ok (.iload_n 2, 1) := by decide +kernel
theorem dr_cJ5_charAt_5068e_17 : decode cJ5_charAt_5068e 17 = .ok (.ishr, 1) := by decide +kernel
theorem dr_cJ5_charAt_5068e_18 : decode cJ5_charAt_5068e 18 = .ok (.invokestatic 138, 3) := by decide +kernel
theorem wr_11_216 : (Jvm.Cond.methodLink "java/lang/AbstractStringBuilder" (138 : Nat) ({ cls := "java/lang/Math", name := "min", desc := "(II)I" } : Jvm.MethodName)) ∈ gw := gw_11 216 rfl rfl
theorem dr_cJ5_charAt_5068e_21 : decode cJ5_charAt_5068e 21 = .ok (.istore 4, 2) := by decide +kernel
theorem dr_cJ5_charAt_5068e_23 : decode cJ5_charAt_5068e 23 = .ok (.iload_n 1, 1) := by decide +kernel
theorem dr_cJ5_charAt_5068e_24 : decode cJ5_charAt_5068e 24 = .ok (.iload 4, 2) := by decide +kernel
theorem dr_cJ5_charAt_5068e_26 : decode cJ5_charAt_5068e 26 = .ok (.invokestatic 144, 3) := by decide +kernel
theorem wr_11_217 : (Jvm.Cond.methodLink "java/lang/AbstractStringBuilder" (144 : Nat) ({ cls := "java/lang/String", name := "checkIndex", desc := "(II)V" } : Jvm.MethodName)) ∈ gw := gw_11 217 rfl rfl
theorem wr_1_21 : (Jvm.Cond.initialized "java/lang/String") ∈ gw := gw_1 21 rfl rfl
theorem wr_3_80 : (Jvm.Cond.code ({ cls := "java/lang/String", name := "checkIndex", desc := "(II)V" } : Jvm.MethodName) prog_34_method_155_code (2 : Nat) (Option.none : Option Jvm.ClassFile.FieldType)) ∈ gw := gw_3 80 rfl rfl
theorem wr_3_79 : (Jvm.Cond.static ({ cls := "java/lang/String", name := "checkIndex", desc := "(II)V" } : Jvm.MethodName)) ∈ gw := gw_3 79 rfl rfl
theorem dr_cJ5_charAt_5068e_29 : decode cJ5_charAt_5068e 29 = .ok (.iload_n 2, 1) := by decide +kernel
theorem dr_cJ5_charAt_5068e_30 : decode cJ5_charAt_5068e 30 = .ok (.ifCond .ne 12, 3) := by decide +kernel
theorem dr_cJ5_charAt_5068e_33 : decode cJ5_charAt_5068e 33 = .ok (.aload_n 3, 1) := by decide +kernel
theorem dr_cJ5_charAt_5068e_34 : decode cJ5_charAt_5068e 34 = .ok (.iload_n 1, 1) := by decide +kernel
theorem dr_cJ5_charAt_5068e_35 : decode cJ5_charAt_5068e 35 = .ok (.baload, 1) := by decide +kernel
theorem dr_cJ5_charAt_5068e_36 : decode cJ5_charAt_5068e 36 = .ok (.sipush 255, 3) := by decide +kernel
theorem dr_cJ5_charAt_5068e_39 : decode cJ5_charAt_5068e 39 = .ok (.iand, 1) := by decide +kernel
theorem dr_cJ5_charAt_5068e_40 : decode cJ5_charAt_5068e 40 = .ok (.i2c, 1) := by decide +kernel
theorem dr_cJ5_charAt_5068e_41 : decode cJ5_charAt_5068e 41 = .ok (.ireturn, 1) := by decide +kernel
theorem dr_cJ4_charAt_5068e_0 : decode cJ4_charAt_5068e 0 = .ok (.aload_n 0, 1) := by decide +kernel
theorem dr_cJ4_charAt_5068e_1 : decode cJ4_charAt_5068e 1 = .ok (.iload_n 1, 1) := by decide +kernel
theorem dr_cJ4_charAt_5068e_2 : decode cJ4_charAt_5068e 2 = .ok (.invokespecial 329, 3) := by decide +kernel
theorem wr_11_213 : (Jvm.Cond.methodLink "java/lang/StringBuilder" (329 : Nat) ({ cls := "java/lang/AbstractStringBuilder", name := "charAt", desc := "(I)C" } : Jvm.MethodName)) ∈ gw := gw_11 213 rfl rfl
theorem wr_11_215 : (Jvm.Cond.code ({ cls := "java/lang/AbstractStringBuilder", name := "charAt", desc := "(I)C" } : Jvm.MethodName) prog_21_method_14_code (5 : Nat) (Option.some Jvm.ClassFile.FieldType.char)) ∈ gw := gw_11 215 rfl rfl
theorem wr_11_214 : (Jvm.Cond.instanceMethod ({ cls := "java/lang/AbstractStringBuilder", name := "charAt", desc := "(I)C" } : Jvm.MethodName)) ∈ gw := gw_11 214 rfl rfl
theorem wr_11_235 : (Jvm.Cond.sameMethod "java/lang/AbstractStringBuilder" "java/lang/AbstractStringBuilder" "charAt" "(I)C") ∈ gw := gw_11 235 rfl rfl
theorem dr_cJ4_charAt_5068e_5 : decode cJ4_charAt_5068e 5 = .ok (.ireturn, 1) := by decide +kernel
theorem dr_cJ5_ensureCapacityInternal_d00df_0 : decode cJ5_ensureCapacityInternal_d00df 0 = .ok (.aload_n 0, 1) := by decide +kernel
theorem dr_cJ5_ensureCapacityInternal_d00df_1 : decode cJ5_ensureCapacityInternal_d00df 1 = .ok (.getfield 15, 3) := by decide +kernel
theorem dr_cJ5_ensureCapacityInternal_d00df_4 : decode cJ5_ensureCapacityInternal_d00df 4 = .ok (.arraylength, 1) := by decide +kernel
theorem dr_cJ5_ensureCapacityInternal_d00df_5 : decode cJ5_ensureCapacityInternal_d00df 5 = .ok (.aload_n 0, 1) := by decide +kernel
theorem dr_cJ5_ensureCapacityInternal_d00df_6 : decode cJ5_ensureCapacityInternal_d00df 6 = .ok (.getfield 22, 3) := by decide +kernel
theorem dr_cJ5_ensureCapacityInternal_d00df_9 : decode cJ5_ensureCapacityInternal_d00df 9 = .ok (.ishr, 1) := by decide +kernel
theorem dr_cJ5_ensureCapacityInternal_d00df_10 : decode cJ5_ensureCapacityInternal_d00df 10 = .ok (.istore_n 2, 1) := by decide +kernel
theorem dr_cJ5_ensureCapacityInternal_d00df_11 : decode cJ5_ensureCapacityInternal_d00df 11 = .ok (.iload_n 1, 1) := by decide +kernel
theorem dr_cJ5_ensureCapacityInternal_d00df_12 : decode cJ5_ensureCapacityInternal_d00df 12 = .ok (.iload_n 2, 1) := by decide +kernel
theorem dr_cJ5_ensureCapacityInternal_d00df_13 : decode cJ5_ensureCapacityInternal_d00df 13 = .ok (.isub, 1) := by decide +kernel
theorem dr_cJ5_ensureCapacityInternal_d00df_14 : decode cJ5_ensureCapacityInternal_d00df 14 = .ok (.ifCond .le 24, 3) := by decide +kernel
theorem dr_cJ5_ensureCapacityInternal_d00df_38 : decode cJ5_ensureCapacityInternal_d00df 38 = .ok (.return_, 1) := by decide +kernel
theorem dr_cJ5_isLatin1_aae02_0 : decode cJ5_isLatin1_aae02 0 = .ok (.getstatic 18, 3) := by decide +kernel
theorem wr_7_52 : (Jvm.Cond.fieldLink "java/lang/AbstractStringBuilder" (18 : Nat) "java/lang/String" "COMPACT_STRINGS" "Z") ∈ gw := gw_7 52 rfl rfl
theorem dr_cJ5_isLatin1_aae02_3 : decode cJ5_isLatin1_aae02 3 = .ok (.ifCond .eq 14, 3) := by decide +kernel
theorem dr_cJ5_isLatin1_aae02_6 : decode cJ5_isLatin1_aae02 6 = .ok (.aload_n 0, 1) := by decide +kernel
theorem dr_cJ5_isLatin1_aae02_7 : decode cJ5_isLatin1_aae02 7 = .ok (.getfield 22, 3) := by decide +kernel
theorem dr_cJ5_isLatin1_aae02_10 : decode cJ5_isLatin1_aae02 10 = .ok (.ifCond .ne 7, 3) := by decide +kernel
theorem dr_cJ5_isLatin1_aae02_13 : decode cJ5_isLatin1_aae02 13 = .ok (.iconst 1, 1) := by decide +kernel
theorem dr_cJ5_isLatin1_aae02_14 : decode cJ5_isLatin1_aae02 14 = .ok (.goto 4, 3) := by decide +kernel
theorem dr_cJ5_isLatin1_aae02_18 : decode cJ5_isLatin1_aae02 18 = .ok (.ireturn, 1) := by decide +kernel
theorem dr_cJ1_canEncode_fc78d_0 : decode cJ1_canEncode_fc78d 0 = .ok (.iload_n 0, 1) := by decide +kernel
theorem dr_cJ1_canEncode_fc78d_1 : decode cJ1_canEncode_fc78d 1 = .ok (.sipush 255, 3) := by decide +kernel
theorem dr_cJ1_canEncode_fc78d_4 : decode cJ1_canEncode_fc78d 4 = .ok (.if_icmp .gt 7, 3) := by decide +kernel
theorem dr_cJ1_canEncode_fc78d_11 : decode cJ1_canEncode_fc78d 11 = .ok (.iconst 0, 1) := by decide +kernel
theorem dr_cJ1_canEncode_fc78d_12 : decode cJ1_canEncode_fc78d 12 = .ok (.ireturn, 1) := by decide +kernel
theorem dr_cJ1_canEncode_fc78d_7 : decode cJ1_canEncode_fc78d 7 = .ok (.iconst 1, 1) := by decide +kernel
theorem dr_cJ1_canEncode_fc78d_8 : decode cJ1_canEncode_fc78d 8 = .ok (.goto 4, 3) := by decide +kernel
theorem dr_cJ5_append_3fe6f_0 : decode cJ5_append_3fe6f 0 = .ok (.aload_n 0, 1) := by decide +kernel
theorem dr_cJ5_append_3fe6f_1 : decode cJ5_append_3fe6f 1 = .ok (.aload_n 0, 1) := by decide +kernel
theorem dr_cJ5_append_3fe6f_2 : decode cJ5_append_3fe6f 2 = .ok (.getfield 79, 3) := by decide +kernel
theorem dr_cJ5_append_3fe6f_5 : decode cJ5_append_3fe6f 5 = .ok (.iconst 1, 1) := by decide +kernel
theorem dr_cJ5_append_3fe6f_6 : decode cJ5_append_3fe6f 6 = .ok (.iadd, 1) := by decide +kernel
theorem dr_cJ5_append_3fe6f_7 : decode cJ5_append_3fe6f 7 = .ok (.invokevirtual 100, 3) := by decide +kernel
theorem wr_8_4 : (Jvm.Cond.methodLink "java/lang/AbstractStringBuilder" (100 : Nat) ({ cls := "java/lang/AbstractStringBuilder", name := "ensureCapacityInternal", desc := "(I)V" } : Jvm.MethodName)) ∈ gw := gw_8 4 rfl rfl
theorem wr_8_7 : (Jvm.Cond.code ({ cls := "java/lang/AbstractStringBuilder", name := "ensureCapacityInternal", desc := "(I)V" } : Jvm.MethodName) prog_21_method_9_code (3 : Nat) (Option.none : Option Jvm.ClassFile.FieldType)) ∈ gw := gw_8 7 rfl rfl
theorem wr_8_6 : (Jvm.Cond.instanceMethod ({ cls := "java/lang/AbstractStringBuilder", name := "ensureCapacityInternal", desc := "(I)V" } : Jvm.MethodName)) ∈ gw := gw_8 6 rfl rfl
theorem wr_s_0 : Cond.selects "java/lang/StringBuilder" ⟨"java/lang/AbstractStringBuilder", "ensureCapacityInternal", "(I)V"⟩ ⟨"java/lang/AbstractStringBuilder", "ensureCapacityInternal", "(I)V"⟩ ∈ gw := gw_s _ 0 rfl rfl rfl
theorem dr_cJ5_append_3fe6f_10 : decode cJ5_append_3fe6f 10 = .ok (.aload_n 0, 1) := by decide +kernel
theorem dr_cJ5_append_3fe6f_11 : decode cJ5_append_3fe6f 11 = .ok (.invokevirtual 83, 3) := by decide +kernel
theorem wr_8_33 : (Jvm.Cond.methodLink "java/lang/AbstractStringBuilder" (83 : Nat) ({ cls := "java/lang/AbstractStringBuilder", name := "isLatin1", desc := "()Z" } : Jvm.MethodName)) ∈ gw := gw_8 33 rfl rfl
theorem wr_8_37 : (Jvm.Cond.code ({ cls := "java/lang/AbstractStringBuilder", name := "isLatin1", desc := "()Z" } : Jvm.MethodName) prog_21_method_68_code (1 : Nat) (Option.some Jvm.ClassFile.FieldType.boolean)) ∈ gw := gw_8 37 rfl rfl
theorem wr_8_34 : (Jvm.Cond.instanceMethod ({ cls := "java/lang/AbstractStringBuilder", name := "isLatin1", desc := "()Z" } : Jvm.MethodName)) ∈ gw := gw_8 34 rfl rfl
theorem wr_8_36 : (Jvm.Cond.selects "java/lang/StringBuilder" ({ cls := "java/lang/AbstractStringBuilder", name := "isLatin1", desc := "()Z" } : Jvm.MethodName) ({ cls := "java/lang/AbstractStringBuilder", name := "isLatin1", desc := "()Z" } : Jvm.MethodName)) ∈ gw := gw_8 36 rfl rfl
theorem dr_cJ5_append_3fe6f_14 : decode cJ5_append_3fe6f 14 = .ok (.ifCond .eq 31, 3) := by decide +kernel
theorem dr_cJ5_append_3fe6f_17 : decode cJ5_append_3fe6f 17 = .ok (.iload_n 1, 1) := by decide +kernel
theorem dr_cJ5_append_3fe6f_18 : decode cJ5_append_3fe6f 18 = .ok (.invokestatic 191, 3) := by decide +kernel
theorem wr_8_38 : (Jvm.Cond.methodLink "java/lang/AbstractStringBuilder" (191 : Nat) ({ cls := "java/lang/StringLatin1", name := "canEncode", desc := "(C)Z" } : Jvm.MethodName)) ∈ gw := gw_8 38 rfl rfl
theorem wr_1_28 : (Jvm.Cond.initialized "java/lang/StringLatin1") ∈ gw := gw_1 28 rfl rfl
theorem wr_8_40 : (Jvm.Cond.code ({ cls := "java/lang/StringLatin1", name := "canEncode", desc := "(C)Z" } : Jvm.MethodName) prog_37_method_3_code (1 : Nat) (Option.some Jvm.ClassFile.FieldType.boolean)) ∈ gw := gw_8 40 rfl rfl
theorem wr_8_39 : (Jvm.Cond.static ({ cls := "java/lang/StringLatin1", name := "canEncode", desc := "(C)Z" } : Jvm.MethodName)) ∈ gw := gw_8 39 rfl rfl
theorem dr_cJ5_append_3fe6f_21 : decode cJ5_append_3fe6f 21 = .ok (.ifCond .eq 24, 3) := by decide +kernel
theorem dr_cJ5_append_3fe6f_24 : decode cJ5_append_3fe6f 24 = .ok (.aload_n 0, 1) := by decide +kernel
theorem dr_cJ5_append_3fe6f_25 : decode cJ5_append_3fe6f 25 = .ok (.getfield 15, 3) := by decide +kernel
theorem dr_cJ5_append_3fe6f_28 : decode cJ5_append_3fe6f 28 = .ok (.aload_n 0, 1) := by decide +kernel
theorem dr_cJ5_append_3fe6f_29 : decode cJ5_append_3fe6f 29 = .ok (.dup, 1) := by decide +kernel
theorem dr_cJ5_append_3fe6f_30 : decode cJ5_append_3fe6f 30 = .ok (.getfield 79, 3) := by decide +kernel
theorem dr_cJ5_append_3fe6f_33 : decode cJ5_append_3fe6f 33 = .ok (.dup_x1, 1) := by decide +kernel
theorem dr_cJ5_append_3fe6f_34 : decode cJ5_append_3fe6f 34 = .ok (.iconst 1, 1) := by decide +kernel
theorem dr_cJ5_append_3fe6f_35 : decode cJ5_append_3fe6f 35 = .ok (.iadd, 1) := by decide +kernel
theorem dr_cJ5_append_3fe6f_36 : decode cJ5_append_3fe6f 36 = .ok (.putfield 79, 3) := by decide +kernel
theorem dr_cJ5_append_3fe6f_39 : decode cJ5_append_3fe6f 39 = .ok (.iload_n 1, 1) := by decide +kernel
theorem dr_cJ5_append_3fe6f_40 : decode cJ5_append_3fe6f 40 = .ok (.i2b, 1) := by decide +kernel
theorem dr_cJ5_append_3fe6f_41 : decode cJ5_append_3fe6f 41 = .ok (.bastore, 1) := by decide +kernel
theorem dr_cJ5_append_3fe6f_42 : decode cJ5_append_3fe6f 42 = .ok (.goto 33, 3) := by decide +kernel
theorem dr_cJ5_append_3fe6f_75 : decode cJ5_append_3fe6f 75 = .ok (.aload_n 0, 1) := by decide +kernel
theorem dr_cJ5_append_3fe6f_76 : decode cJ5_append_3fe6f 76 = .ok (.areturn, 1) := by decide +kernel
theorem dr_cJ4_append_cf468_0 : decode cJ4_append_cf468 0 = .ok (.aload_n 0, 1) := by decide +kernel
theorem dr_cJ4_append_cf468_1 : decode cJ4_append_cf468 1 = .ok (.iload_n 1, 1) := by decide +kernel
theorem dr_cJ4_append_cf468_2 : decode cJ4_append_cf468 2 = .ok (.invokespecial 50, 3) := by decide +kernel
theorem wr_8_1 : (Jvm.Cond.methodLink "java/lang/StringBuilder" (50 : Nat) ({ cls := "java/lang/AbstractStringBuilder", name := "append", desc := "(C)Ljava/lang/AbstractStringBuilder;" } : Jvm.MethodName)) ∈ gw := gw_8 1 rfl rfl
theorem wr_8_3 : (Jvm.Cond.code ({ cls := "java/lang/AbstractStringBuilder", name := "append", desc := "(C)Ljava/lang/AbstractStringBuilder;" } : Jvm.MethodName) prog_21_method_31_code (2 : Nat) (Option.some (Jvm.ClassFile.FieldType.object "java/lang/AbstractStringBuilder"))) ∈ gw := gw_8 3 rfl rfl
theorem wr_8_2 : (Jvm.Cond.instanceMethod ({ cls := "java/lang/AbstractStringBuilder", name := "append", desc := "(C)Ljava/lang/AbstractStringBuilder;" } : Jvm.MethodName)) ∈ gw := gw_8 2 rfl rfl
theorem wr_11_224 : (Jvm.Cond.sameMethod "java/lang/AbstractStringBuilder" "java/lang/AbstractStringBuilder" "append" "(C)Ljava/lang/AbstractStringBuilder;") ∈ gw := gw_11 224 rfl rfl
theorem dr_cJ4_append_cf468_5 : decode cJ4_append_cf468 5 = .ok (.pop, 1) := by decide +kernel
theorem dr_cJ4_append_cf468_6 : decode cJ4_append_cf468 6 = .ok (.aload_n 0, 1) := by decide +kernel
theorem dr_cJ4_append_cf468_7 : decode cJ4_append_cf468 7 = .ok (.areturn, 1) := by decide +kernel
theorem dr_cJ5_newCapacity_0f7a4_0 : decode cJ5_newCapacity_0f7a4 0 = .ok (.aload_n 0, 1) := by decide +kernel
theorem dr_cJ5_newCapacity_0f7a4_1 : decode cJ5_newCapacity_0f7a4 1 = .ok (.getfield 15, 3) := by decide +kernel
theorem dr_cJ5_newCapacity_0f7a4_4 : decode cJ5_newCapacity_0f7a4 4 = .ok (.arraylength, 1) := by decide +kernel
theorem dr_cJ5_newCapacity_0f7a4_5 : decode cJ5_newCapacity_0f7a4 5 = .ok (.istore_n 2, 1) := by decide +kernel
theorem dr_cJ5_newCapacity_0f7a4_6 : decode cJ5_newCapacity_0f7a4 6 = .ok (.iload_n 1, 1) := by decide +kernel
theorem dr_cJ5_newCapacity_0f7a4_7 : decode cJ5_newCapacity_0f7a4 7 = .ok (.aload_n 0, 1) := by decide +kernel
theorem dr_cJ5_newCapacity_0f7a4_8 : decode cJ5_newCapacity_0f7a4 8 = .ok (.getfield 22, 3) := by decide +kernel
theorem dr_cJ5_newCapacity_0f7a4_11 : decode cJ5_newCapacity_0f7a4 11 = .ok (.ishl, 1) := by decide +kernel
theorem dr_cJ5_newCapacity_0f7a4_12 : decode cJ5_newCapacity_0f7a4 12 = .ok (.istore_n 3, 1) := by decide +kernel
theorem dr_cJ5_newCapacity_0f7a4_13 : decode cJ5_newCapacity_0f7a4 13 = .ok (.iload_n 3, 1) := by decide +kernel
theorem dr_cJ5_newCapacity_0f7a4_14 : decode cJ5_newCapacity_0f7a4 14 = .ok (.iload_n 2, 1) := by decide +kernel
theorem dr_cJ5_newCapacity_0f7a4_15 : decode cJ5_newCapacity_0f7a4 15 = .ok (.isub, 1) := by decide +kernel
theorem dr_cJ5_newCapacity_0f7a4_16 : decode cJ5_newCapacity_0f7a4 16 = .ok (.istore 4, 2) := by decide +kernel
theorem dr_cJ5_newCapacity_0f7a4_18 : decode cJ5_newCapacity_0f7a4 18 = .ok (.iload_n 2, 1) := by decide +kernel
theorem dr_cJ5_newCapacity_0f7a4_19 : decode cJ5_newCapacity_0f7a4 19 = .ok (.iload 4, 2) := by decide +kernel
theorem dr_cJ5_newCapacity_0f7a4_21 : decode cJ5_newCapacity_0f7a4 21 = .ok (.iload_n 2, 1) := by decide +kernel
theorem dr_cJ5_newCapacity_0f7a4_22 : decode cJ5_newCapacity_0f7a4 22 = .ok (.iconst 2, 1) := by decide +kernel
theorem dr_cJ5_newCapacity_0f7a4_23 : decode cJ5_newCapacity_0f7a4 23 = .ok (.aload_n 0, 1) := by decide +kernel
theorem dr_cJ5_newCapacity_0f7a4_24 : decode cJ5_newCapacity_0f7a4 24 = .ok (.getfield 22, 3) := by decide +kernel
theorem dr_cJ5_newCapacity_0f7a4_27 : decode cJ5_newCapacity_0f7a4 27 = .ok (.ishl, 1) := by decide +kernel
theorem dr_cJ5_newCapacity_0f7a4_28 : decode cJ5_newCapacity_0f7a4 28 = .ok (.iadd, 1) := by decide +kernel
theorem dr_cJ5_newCapacity_0f7a4_29 : decode cJ5_newCapacity_0f7a4 29 = .ok (.invokestatic 114, 3) := by decide +kernel
theorem wr_8_12 : (Jvm.Cond.methodLink "java/lang/AbstractStringBuilder" (114 : Nat) ({ cls := "jdk/internal/util/ArraysSupport", name := "newLength", desc := "(III)I" } : Jvm.MethodName)) ∈ gw := gw_8 12 rfl rfl
theorem dr_cJ5_newCapacity_0f7a4_32 : decode cJ5_newCapacity_0f7a4 32 = .ok (.istore 5, 2) := by decide +kernel
theorem dr_cJ5_newCapacity_0f7a4_34 : decode cJ5_newCapacity_0f7a4 34 = .ok (.iload 5, 2) := by decide +kernel
theorem dr_cJ5_newCapacity_0f7a4_36 : decode cJ5_newCapacity_0f7a4 36 = .ok (.ldc 39, 2) := by decide +kernel
theorem wr_8_20 : (Jvm.Cond.constant "java/lang/AbstractStringBuilder" (39 : Nat) (2147483647 : Int32)) ∈ gw := gw_8 20 rfl rfl
theorem dr_cJ5_newCapacity_0f7a4_38 : decode cJ5_newCapacity_0f7a4 38 = .ok (.if_icmp .ne 13, 3) := by decide +kernel
theorem dr_cJ5_newCapacity_0f7a4_51 : decode cJ5_newCapacity_0f7a4 51 = .ok (.iload 5, 2) := by decide +kernel
theorem dr_cJ5_newCapacity_0f7a4_53 : decode cJ5_newCapacity_0f7a4 53 = .ok (.aload_n 0, 1) := by decide +kernel
theorem dr_cJ5_newCapacity_0f7a4_54 : decode cJ5_newCapacity_0f7a4 54 = .ok (.getfield 22, 3) := by decide +kernel
theorem dr_cJ5_newCapacity_0f7a4_57 : decode cJ5_newCapacity_0f7a4 57 = .ok (.ishr, 1) := by decide +kernel
theorem dr_cJ5_newCapacity_0f7a4_58 : decode cJ5_newCapacity_0f7a4 58 = .ok (.ireturn, 1) := by decide +kernel
theorem dr_cJ7_copyOf_9075b_0 : decode cJ7_copyOf_9075b 0 = .ok (.iload_n 1, 1) := by decide +kernel
theorem dr_cJ7_copyOf_9075b_1 : decode cJ7_copyOf_9075b 1 = .ok (.aload_n 0, 1) := by decide +kernel
theorem dr_cJ7_copyOf_9075b_2 : decode cJ7_copyOf_9075b 2 = .ok (.arraylength, 1) := by decide +kernel
theorem dr_cJ7_copyOf_9075b_3 : decode cJ7_copyOf_9075b 3 = .ok (.if_icmp .ne 11, 3) := by decide +kernel
theorem dr_cJ7_copyOf_9075b_14 : decode cJ7_copyOf_9075b 14 = .ok (.iload_n 1, 1) := by decide +kernel
theorem dr_cJ7_copyOf_9075b_15 : decode cJ7_copyOf_9075b 15 = .ok (.newarray .byte, 2) := by decide +kernel
theorem wr_1_66 : (Jvm.Cond.arrayClass Jvm.ClassFile.FieldType.byte) ∈ gw := gw_1 66 rfl rfl
theorem dr_cJ7_copyOf_9075b_17 : decode cJ7_copyOf_9075b 17 = .ok (.astore_n 2, 1) := by decide +kernel
theorem dr_cJ7_copyOf_9075b_18 : decode cJ7_copyOf_9075b 18 = .ok (.aload_n 0, 1) := by decide +kernel
theorem dr_cJ7_copyOf_9075b_19 : decode cJ7_copyOf_9075b 19 = .ok (.iconst 0, 1) := by decide +kernel
theorem dr_cJ7_copyOf_9075b_20 : decode cJ7_copyOf_9075b 20 = .ok (.aload_n 2, 1) := by decide +kernel
theorem dr_cJ7_copyOf_9075b_21 : decode cJ7_copyOf_9075b 21 = .ok (.iconst 0, 1) := by decide +kernel
theorem dr_cJ7_copyOf_9075b_22 : decode cJ7_copyOf_9075b 22 = .ok (.aload_n 0, 1) := by decide +kernel
theorem dr_cJ7_copyOf_9075b_23 : decode cJ7_copyOf_9075b 23 = .ok (.arraylength, 1) := by decide +kernel
theorem dr_cJ7_copyOf_9075b_24 : decode cJ7_copyOf_9075b 24 = .ok (.iload_n 1, 1) := by decide +kernel
theorem dr_cJ7_copyOf_9075b_25 : decode cJ7_copyOf_9075b 25 = .ok (.invokestatic 304, 3) := by decide +kernel
theorem dr_cJ7_copyOf_9075b_28 : decode cJ7_copyOf_9075b 28 = .ok (.invokestatic 150, 3) := by decide +kernel
theorem dr_cJ7_copyOf_9075b_31 : decode cJ7_copyOf_9075b 31 = .ok (.aload_n 2, 1) := by decide +kernel
theorem dr_cJ7_copyOf_9075b_32 : decode cJ7_copyOf_9075b 32 = .ok (.areturn, 1) := by decide +kernel
theorem dr_cJ5_ensureCapacityInternal_d00df_17 : decode cJ5_ensureCapacityInternal_d00df 17 = .ok (.aload_n 0, 1) := by decide +kernel
theorem dr_cJ5_ensureCapacityInternal_d00df_18 : decode cJ5_ensureCapacityInternal_d00df 18 = .ok (.aload_n 0, 1) := by decide +kernel
theorem dr_cJ5_ensureCapacityInternal_d00df_19 : decode cJ5_ensureCapacityInternal_d00df 19 = .ok (.getfield 15, 3) := by decide +kernel
theorem dr_cJ5_ensureCapacityInternal_d00df_22 : decode cJ5_ensureCapacityInternal_d00df 22 = .ok (.aload_n 0, 1) := by decide +kernel
theorem dr_cJ5_ensureCapacityInternal_d00df_23 : decode cJ5_ensureCapacityInternal_d00df 23 = .ok (.iload_n 1, 1) := by decide +kernel
theorem dr_cJ5_ensureCapacityInternal_d00df_24 : decode cJ5_ensureCapacityInternal_d00df 24 = .ok (.invokevirtual 104, 3) := by decide +kernel
theorem wr_8_8 : (Jvm.Cond.methodLink "java/lang/AbstractStringBuilder" (104 : Nat) ({ cls := "java/lang/AbstractStringBuilder", name := "newCapacity", desc := "(I)I" } : Jvm.MethodName)) ∈ gw := gw_8 8 rfl rfl
theorem wr_8_11 : (Jvm.Cond.code ({ cls := "java/lang/AbstractStringBuilder", name := "newCapacity", desc := "(I)I" } : Jvm.MethodName) prog_21_method_10_code (6 : Nat) (Option.some Jvm.ClassFile.FieldType.int)) ∈ gw := gw_8 11 rfl rfl
theorem wr_8_10 : (Jvm.Cond.instanceMethod ({ cls := "java/lang/AbstractStringBuilder", name := "newCapacity", desc := "(I)I" } : Jvm.MethodName)) ∈ gw := gw_8 10 rfl rfl
theorem wr_s_1 : Cond.selects "java/lang/StringBuilder" ⟨"java/lang/AbstractStringBuilder", "newCapacity", "(I)I"⟩ ⟨"java/lang/AbstractStringBuilder", "newCapacity", "(I)I"⟩ ∈ gw := gw_s _ 1 rfl rfl rfl
theorem dr_cJ5_ensureCapacityInternal_d00df_27 : decode cJ5_ensureCapacityInternal_d00df 27 = .ok (.aload_n 0, 1) := by decide +kernel
theorem dr_cJ5_ensureCapacityInternal_d00df_28 : decode cJ5_ensureCapacityInternal_d00df 28 = .ok (.getfield 22, 3) := by decide +kernel
theorem dr_cJ5_ensureCapacityInternal_d00df_31 : decode cJ5_ensureCapacityInternal_d00df 31 = .ok (.ishl, 1) := by decide +kernel
theorem dr_cJ5_ensureCapacityInternal_d00df_32 : decode cJ5_ensureCapacityInternal_d00df 32 = .ok (.invokestatic 108, 3) := by decide +kernel
theorem wr_8_21 : (Jvm.Cond.methodLink "java/lang/AbstractStringBuilder" (108 : Nat) ({ cls := "java/util/Arrays", name := "copyOf", desc := "([BI)[B" } : Jvm.MethodName)) ∈ gw := gw_8 21 rfl rfl
theorem wr_8_23 : (Jvm.Cond.code ({ cls := "java/util/Arrays", name := "copyOf", desc := "([BI)[B" } : Jvm.MethodName) prog_44_method_121_code (3 : Nat) (Option.some (Jvm.ClassFile.FieldType.array Jvm.ClassFile.FieldType.byte))) ∈ gw := gw_8 23 rfl rfl
theorem wr_8_22 : (Jvm.Cond.static ({ cls := "java/util/Arrays", name := "copyOf", desc := "([BI)[B" } : Jvm.MethodName)) ∈ gw := gw_8 22 rfl rfl
theorem dr_cJ5_ensureCapacityInternal_d00df_35 : decode cJ5_ensureCapacityInternal_d00df 35 = .ok (.putfield 15, 3) := by decide +kernel
abbrev ky_658420_AbstractStringBuilder_length : gKey := (cJ5_length_8abf5, 1, "java/lang/AbstractStringBuilder", (some FieldType.int), [], "length", fun _ _ => True)
def pp_658420_AbstractStringBuilder_length (D : va_G) (I : FieldType → ClassId) (P658411 : List Nat) (F658412 : Nat → va_E) (q658413 : Nat) (q658414 : Nat) (p658415 : Int32) (p658416 : Int32) (f658417 : Nat → Int32) (n658418 : Nat) : Option Value → va_W → Nat → Nat → Prop := fun r w dc ds => r = some (.int p658416) ∧ w = va_pl P658411 F658412 ∧ dc ≤ 0 ∧ ds ≤ 0
set_option maxRecDepth 100000 in
set_option maxHeartbeats 4000000 in
theorem cp_658420_AbstractStringBuilder_length (l : Launch) (hl0 : l.stackTraces = false) (D : va_G) (I : FieldType → ClassId) (P658411 : List Nat) (F658412 : Nat → va_E) (q658413 : Nat) (q658414 : Nat) (p658415 : Int32) (p658416 : Int32) (f658417 : Nat → Int32) (n658418 : Nat) (hmq658413 : q658413 ∈ P658411) (hmq658414 : q658414 ∈ P658411) (heq658413 : F658412 q658413 = .inr (1, [.ref q658414, .int 0, .int p658415, .int p658416])) (heq658414 : F658412 q658414 = .inl (I .byte, n658418, .inl f658417)) (bp658415 : gB p658415 0 1) (bp658416 : gB p658416 0 16777216) (bf658417 : gF f658417 (-128) 127) (x658419 : ((n658418 : Int) ≤ 16777216)) : CtA (gV D I) l yJ5_length_8abf5 cJ5_length_8abf5 1 (some FieldType.int) 0 0 0 0 [.ref q658413] (va_pl P658411 F658412) (pp_658420_AbstractStringBuilder_length D I P658411 F658412 q658413 q658414 p658415 p658416 f658417 n658418) gNA := by
  refine CtA_ofF hl0 (by decide +kernel) (Nat.le_of_ble_eq_true rfl) ?_
  refine G_aload_n 0 dr_cJ5_length_8abf5_0 rfl ?_
  refine Gp_get 3 hmq658413 heq658413 dr_cJ5_length_8abf5_1 (gk_J4 D I) (Nat.le_of_ble_eq_true rfl) wr_7_64 rfl ?_
  exact G_iretA dr_cJ5_length_8abf5_4 rfl (Nat.le_of_ble_eq_true rfl) (Nat.le_of_ble_eq_true rfl) ⟨rfl, rfl, (Nat.le_of_ble_eq_true rfl), (Nat.le_of_ble_eq_true rfl)⟩
abbrev ky_658410_StringBuilder_length : gKey := (cJ4_length_8abf5, 1, "java/lang/StringBuilder", (some FieldType.int), [], "length", fun _ _ => True)
def pp_658410_StringBuilder_length (D : va_G) (I : FieldType → ClassId) (P658401 : List Nat) (F658402 : Nat → va_E) (q658403 : Nat) (q658404 : Nat) (p658405 : Int32) (p658406 : Int32) (f658407 : Nat → Int32) (n658408 : Nat) : Option Value → va_W → Nat → Nat → Prop := fun r w dc ds => r = some (.int p658406) ∧ w = va_pl P658401 F658402 ∧ dc ≤ 0 ∧ ds ≤ 0
set_option maxRecDepth 100000 in
set_option maxHeartbeats 4000000 in
theorem cp_658410_StringBuilder_length (l : Launch) (hl0 : l.stackTraces = false) (D : va_G) (I : FieldType → ClassId) (P658401 : List Nat) (F658402 : Nat → va_E) (q658403 : Nat) (q658404 : Nat) (p658405 : Int32) (p658406 : Int32) (f658407 : Nat → Int32) (n658408 : Nat) (hmq658403 : q658403 ∈ P658401) (hmq658404 : q658404 ∈ P658401) (heq658403 : F658402 q658403 = .inr (1, [.ref q658404, .int 0, .int p658405, .int p658406])) (heq658404 : F658402 q658404 = .inl (I .byte, n658408, .inl f658407)) (bp658405 : gB p658405 0 1) (bp658406 : gB p658406 0 16777216) (bf658407 : gF f658407 (-128) 127) (x658409 : ((n658408 : Int) ≤ 16777216)) : CtA (gV D I) l yJ4_length_8abf5 cJ4_length_8abf5 1 (some FieldType.int) 1 20 0 0 [.ref q658403] (va_pl P658401 F658402) (pp_658410_StringBuilder_length D I P658401 F658402 q658403 q658404 p658405 p658406 f658407 n658408) gNA := by
  refine CtA_ofF hl0 (by decide +kernel) (Nat.le_of_ble_eq_true rfl) ?_
  refine G_aload_n 0 dr_cJ4_length_8abf5_0 rfl ?_
  refine Gw_callSU (As := []) (gV_ok D I) (cp_658420_AbstractStringBuilder_length l hl0 D I P658401 F658402 q658403 q658404 p658405 p658406 f658407 n658408 hmq658403 hmq658404 heq658403 heq658404 bp658405 bp658406 bf658407 (by have qa0 : Int32.toInt 0 = 0 := (by decide); omega)) dr_cJ4_length_8abf5_1 ⟨wr_8_90, wr_1_19, wr_8_91, by decide, rfl, (Nat.le_of_ble_eq_true rfl), (Nat.le_of_ble_eq_true rfl)⟩ wr_8_85 wr_8_86 wr_7_73 wr_7_44 (by decide) hmq658403 heq658403 rfl (show 0 + 0 ≤ 0 by first | omega | decide) (show 0 + 0 ≤ 0 by first | omega | decide) (Nat.le_of_ble_eq_true rfl) (fun r658424 w658425 dc658421 ds658422 hp658423 => ?_)
  obtain ⟨rfl, rfl, hdc, hds⟩ := hp658423
  change G _ _ _ _ _ _ _ (.int p658406 :: _) _ _ _
  refine G_widen (cs' := 0) (sl' := 0) (by omega) (by omega) ?_
  exact G_iretA dr_cJ4_length_8abf5_4 rfl (Nat.le_of_ble_eq_true rfl) (Nat.le_of_ble_eq_true rfl) ⟨rfl, rfl, (Nat.le_of_ble_eq_true rfl), (Nat.le_of_ble_eq_true rfl)⟩
/- tr_RPreconditions_checkIndex2:  -/
def tr_RPreconditions_checkIndex2 (a0 : Int32) (a1 : Int32) : Prop := ∀ R : Prop,
  (a0.toInt < a1.toInt → R) →
  R
abbrev ky_658474_Preconditions_checkIndex : gKey := (cJ3_checkIndex_8e157, 3, "jdk/internal/util/Preconditions", (some FieldType.int), [], "checkIndex", fun _ _ => True)
def pp_658474_Preconditions_checkIndex (D : va_G) (I : FieldType → ClassId) (P658468 : List Nat) (F658469 : Nat → va_E) (p658470 : Int32) (p658471 : Int32) (qo658472 : Nat) : Option Value → va_W → Nat → Nat → Prop := fun r w dc ds => r = some (.int p658470) ∧ w = va_pl P658468 F658469 ∧ dc ≤ 0 ∧ ds ≤ 0 ∧ tr_RPreconditions_checkIndex2 p658470 p658471
set_option maxRecDepth 100000 in
set_option maxHeartbeats 4000000 in
theorem cp_658474_Preconditions_checkIndex (l : Launch) (hl0 : l.stackTraces = false) (D : va_G) (I : FieldType → ClassId) (P658468 : List Nat) (F658469 : Nat → va_E) (p658470 : Int32) (p658471 : Int32) (qo658472 : Nat) (bp658470 : gB p658470 0 16777216) (bp658471 : gB p658471 0 16777216) (x658473 : p658470.toInt < p658471.toInt) : CtA (gV D I) l yJ3_checkIndex_8e157 cJ3_checkIndex_8e157 3 (some FieldType.int) 0 0 0 0 [.int p658470, .int p658471, .ref qo658472] (va_pl P658468 F658469) (pp_658474_Preconditions_checkIndex D I P658468 F658469 p658470 p658471 qo658472) gNA := by
  refine CtA_ofF hl0 (by decide +kernel) (Nat.le_of_ble_eq_true rfl) ?_
  refine G_iload_n 0 dr_cJ3_checkIndex_8e157_0 rfl ?_
  refine G_if_lt 9 dr_cJ3_checkIndex_8e157_1 (by decide +kernel) (fun hc => absurd (show False by have := gj_lt hc (show Int32.toInt 0 = 0 by decide); omega) not_false) (fun _ => ?_)
  refine G_iload_n 0 dr_cJ3_checkIndex_8e157_4 rfl ?_
  refine G_iload_n 1 dr_cJ3_checkIndex_8e157_5 rfl ?_
  refine G_icmp_lt 16 dr_cJ3_checkIndex_8e157_6 (by decide +kernel) (fun hc658475 => ?_) (fun hc658475 => ?_)
  · have r658476 : p658470.toInt < p658471.toInt := gC_lt hc658475
    have bp658470' : gB p658470 0 16777215 := ⟨by omega, by omega⟩
    have bp658471' : gB p658471 1 16777216 := ⟨by omega, by omega⟩
    refine G_iload_n 0 dr_cJ3_checkIndex_8e157_16 rfl ?_
    exact G_iretA dr_cJ3_checkIndex_8e157_17 rfl (Nat.le_of_ble_eq_true rfl) (Nat.le_of_ble_eq_true rfl) ⟨rfl, rfl, (Nat.le_of_ble_eq_true rfl), (Nat.le_of_ble_eq_true rfl), (fun R c1 => c1 r658476)⟩
  · have r658477 : p658471.toInt ≤ p658470.toInt := gC_nlt hc658475
    exact absurd (show False by omega) not_false
/- tr_RString_checkIndex:  -/
def tr_RString_checkIndex (a0 : Int32) (a1 : Int32) : Prop := ∀ R : Prop,
  (tr_RPreconditions_checkIndex a0 a1 → R) →
  (tr_RPreconditions_checkIndex2 a0 a1 → R) →
  R
abbrev ky_658460_String_checkIndex : gKey := (cJ0_checkIndex_df160, 2, "java/lang/String", none, [], "checkIndex", fun _ _ => True)
def pp_658460_String_checkIndex (D : va_G) (I : FieldType → ClassId) (P658455 : List Nat) (F658456 : Nat → va_E) (p658457 : Int32) (p658458 : Int32) : Option Value → va_W → Nat → Nat → Prop := fun r w dc ds => r = none ∧ w = va_pl P658455 F658456 ∧ dc ≤ 0 ∧ ds ≤ 0 ∧ tr_RString_checkIndex p658457 p658458
set_option maxRecDepth 100000 in
set_option maxHeartbeats 4000000 in
theorem cp_658460_String_checkIndex (l : Launch) (hl0 : l.stackTraces = false) (D : va_G) (I : FieldType → ClassId) (P658455 : List Nat) (F658456 : Nat → va_E) (p658457 : Int32) (p658458 : Int32) (bp658457 : gB p658457 0 16777216) (bp658458 : gB p658458 0 16777216) (x658459 : p658457.toInt < p658458.toInt) : CtA (gV D I) l yJ0_checkIndex_df160 cJ0_checkIndex_df160 2 none 1 22 0 0 [.int p658457, .int p658458] (va_pl P658455 F658456) (pp_658460_String_checkIndex D I P658455 F658456 p658457 p658458) gNA := by
  refine CtA_ofF hl0 (by decide +kernel) (Nat.le_of_ble_eq_true rfl) ?_
  refine G_iload_n 0 dr_cJ0_checkIndex_df160_0 rfl ?_
  refine G_iload_n 1 dr_cJ0_checkIndex_df160_1 rfl ?_
  refine G_gets dr_cJ0_checkIndex_df160_2 wr_3_81 gz_pf (fun x hx => ?_)
  rcases hx with rfl | ⟨t658461, rfl⟩
  · refine Gw_callS (As := [.int p658457, .int p658458, .null]) (gV_ok D I) (cp_34_Preconditions_checkIndex l hl0 D I P658455 F658456 p658457 p658458 bp658457 bp658458 (by omega)) dr_cJ0_checkIndex_df160_5 ⟨wr_3_83, wr_1_29, wr_3_85, by decide, rfl, (Nat.le_of_ble_eq_true rfl), (Nat.le_of_ble_eq_true rfl)⟩ wr_3_84 (show 0 + 0 ≤ 0 by first | omega | decide) (show 0 + 0 ≤ 0 by first | omega | decide) (Nat.le_of_ble_eq_true rfl) (fun r658465 w658466 dc658462 ds658463 hp658464 => ?_) (fun _ _ _ _ _ z => z.elim)
    obtain ⟨rfl, rfl, hdc, hds, ht658467⟩ := hp658464
    change G _ _ _ _ _ _ _ (.int p658457 :: _) _ _ _
    refine G_widen (cs' := 0) (sl' := 0) (by omega) (by omega) ?_
    refine G_pop dr_cJ0_checkIndex_df160_8 rfl ?_
    exact G_vretA dr_cJ0_checkIndex_df160_9 rfl (Nat.le_of_ble_eq_true rfl) (Nat.le_of_ble_eq_true rfl) ⟨rfl, rfl, (Nat.le_of_ble_eq_true rfl), (Nat.le_of_ble_eq_true rfl), (fun R c1 c2 => c1 ht658467)⟩
  · refine Gw_callS (As := [.int p658457, .int p658458, .ref t658461]) (gV_ok D I) (cp_658474_Preconditions_checkIndex l hl0 D I P658455 F658456 p658457 p658458 t658461 bp658457 bp658458 (by omega)) dr_cJ0_checkIndex_df160_5 ⟨wr_3_83, wr_1_29, wr_3_85, by decide, rfl, (Nat.le_of_ble_eq_true rfl), (Nat.le_of_ble_eq_true rfl)⟩ wr_3_84 (show 0 + 0 ≤ 0 by first | omega | decide) (show 0 + 0 ≤ 0 by first | omega | decide) (Nat.le_of_ble_eq_true rfl) (fun r658481 w658482 dc658478 ds658479 hp658480 => ?_) (fun _ _ _ _ _ z => z.elim)
    obtain ⟨rfl, rfl, hdc, hds, ht658483⟩ := hp658480
    change G _ _ _ _ _ _ _ (.int p658457 :: _) _ _ _
    refine G_widen (cs' := 0) (sl' := 0) (by omega) (by omega) ?_
    refine G_pop dr_cJ0_checkIndex_df160_8 rfl ?_
    exact G_vretA dr_cJ0_checkIndex_df160_9 rfl (Nat.le_of_ble_eq_true rfl) (Nat.le_of_ble_eq_true rfl) ⟨rfl, rfl, (Nat.le_of_ble_eq_true rfl), (Nat.le_of_ble_eq_true rfl), (fun R c1 c2 => c2 ht658483)⟩
/- tr_RAbstractStringBuilder_charAt: result -/
def tr_RAbstractStringBuilder_charAt (a1 : Int32) (a0_count : Int32) (a0_value_v : Nat → Int32) (a0_value_n : Nat) (o1 : Int32) : Prop := ∀ R : (Int32) → Prop,
  (∀ (x1 : Int32) (x2 : Int32) (x3 : Int32) (x4 : Int32) (x5 : Int32) (x6 : Int32), x1.toInt = (a0_value_n : Nat) → x2.toInt = x1.toInt / 1 → (a0_count.toInt ≥ x3.toInt ∧ x2.toInt ≥ x3.toInt ∧ (x3.toInt = a0_count.toInt ∨ x3.toInt = x2.toInt)) → tr_RString_checkIndex a1 x3 → x4 = a0_value_v a1.toNatClampNeg → gB x4 (-128) 127 → x5 = x4 &&& (255 : Int32) → x6 = (x5.toUInt32 % 65536).toInt32 → R x6) →
  R o1
abbrev ky_658451_AbstractStringBuilder_charAt : gKey := (cJ5_charAt_5068e, 5, "java/lang/AbstractStringBuilder", (some FieldType.char), [], "charAt", fun _ _ => True)
def pp_658451_AbstractStringBuilder_charAt (D : va_G) (I : FieldType → ClassId) (P658439 : List Nat) (F658440 : Nat → va_E) (q658441 : Nat) (q658442 : Nat) (p658443 : Int32) (p658444 : Int32) (p658445 : Int32) (f658446 : Nat → Int32) (n658447 : Nat) : Option Value → va_W → Nat → Nat → Prop := fun r w dc ds => ∃ (o658493 : Int32), r = some (.int o658493) ∧ w = va_pl P658439 F658440 ∧ dc ≤ 0 ∧ ds ≤ 0 ∧ gB o658493 0 65535 ∧ tr_RAbstractStringBuilder_charAt p658443 p658445 f658446 n658447 o658493
set_option maxRecDepth 100000 in
set_option maxHeartbeats 4000000 in
theorem cp_658451_AbstractStringBuilder_charAt (l : Launch) (hl0 : l.stackTraces = false) (D : va_G) (I : FieldType → ClassId) (P658439 : List Nat) (F658440 : Nat → va_E) (q658441 : Nat) (q658442 : Nat) (p658443 : Int32) (p658444 : Int32) (p658445 : Int32) (f658446 : Nat → Int32) (n658447 : Nat) (hmq658441 : q658441 ∈ P658439) (hmq658442 : q658442 ∈ P658439) (heq658441 : F658440 q658441 = .inr (1, [.ref q658442, .int 0, .int p658444, .int p658445])) (heq658442 : F658440 q658442 = .inl (I .byte, n658447, .inl f658446)) (bp658443 : gB p658443 0 16777215) (bp658444 : gB p658444 0 1) (bp658445 : gB p658445 0 16777216) (bf658446 : gF f658446 (-128) 127) (x658448 : p658443.toInt < p658445.toInt) (x658449 : p658445.toInt ≤ (n658447 : Int)) (x658450 : ((n658447 : Int) ≤ 16777216)) : CtA (gV D I) l yJ5_charAt_5068e cJ5_charAt_5068e 5 (some FieldType.char) 2 43 0 0 [.ref q658441, .int p658443] (va_pl P658439 F658440) (pp_658451_AbstractStringBuilder_charAt D I P658439 F658440 q658441 q658442 p658443 p658444 p658445 f658446 n658447) gNA := by
  refine CtA_ofF hl0 (by decide +kernel) (Nat.le_of_ble_eq_true rfl) ?_
  refine G_aload_n 0 dr_cJ5_charAt_5068e_0 rfl ?_
  refine Gp_get 1 hmq658441 heq658441 dr_cJ5_charAt_5068e_1 (gk_J4 D I) (Nat.le_of_ble_eq_true rfl) wr_7_61 rfl ?_
  refine G_istore_n (L' := [(2, .int 0), (0, .ref q658441), (1, .int p658443)]) dr_cJ5_charAt_5068e_4 (Nat.le_of_ble_eq_true rfl) rfl ?_
  refine G_aload_n 1 dr_cJ5_charAt_5068e_5 rfl ?_
  refine Gp_get 0 hmq658441 heq658441 dr_cJ5_charAt_5068e_6 (gk_J4 D I) (Nat.le_of_ble_eq_true rfl) wr_7_60 rfl ?_
  refine G_astore_n (L' := [(3, .ref q658442), (2, .int 0), (0, .ref q658441), (1, .int p658443)]) dr_cJ5_charAt_5068e_9 (Nat.le_of_ble_eq_true rfl) rfl ?_
  refine G_aload_n 2 dr_cJ5_charAt_5068e_10 rfl ?_
  refine Gp_get 3 hmq658441 heq658441 dr_cJ5_charAt_5068e_11 (gk_J4 D I) (Nat.le_of_ble_eq_true rfl) wr_7_64 rfl ?_
  refine G_aload_n 0 dr_cJ5_charAt_5068e_14 rfl ?_
  refine Gp_alen (Int32.ofNat n658447) 1 hmq658442 heq658442 dr_cJ5_charAt_5068e_15 rfl rfl (G_nam fun z658452 hz658452 => ?_)
  have ez658452 : z658452.toInt = (n658447 : Nat) := gI_ofM hz658452 (by omega)
  have bz658452 : gB z658452 0 16777216 := ⟨by omega, by omega⟩
  refine G_iload_n 1 dr_cJ5_charAt_5068e_16 rfl ?_
  refine G_ishr dr_cJ5_charAt_5068e_17 (G_nam fun z658453 hz658453 => ?_)
  have ez658453 : z658453.toInt = z658452.toInt / 1 := gI_shr (k := 0) hz658453 (by decide)
  have bz658453 : gB z658453 0 16777216 := ⟨by omega, by omega⟩
  refine G_mmin dr_cJ5_charAt_5068e_18 wr_11_216 wr_3_227 wr_1_6 wr_3_228 (Nat.le_of_ble_eq_true rfl) (Nat.le_of_ble_eq_true rfl) (show 0 ≤ 0 by first | omega | decide) (show 0 ≤ 0 by first | omega | decide) (G_nam fun z658454 hz658454 => ?_)
  have ez658454 : p658445.toInt ≥ z658454.toInt ∧ z658453.toInt ≥ z658454.toInt ∧ (z658454.toInt = p658445.toInt ∨ z658454.toInt = z658453.toInt) := by have := gI_min hz658454; omega
  have bz658454 : gB z658454 0 16777216 := ⟨by omega, by omega⟩
  refine G_istore (L' := [(4, .int z658454), (3, .ref q658442), (2, .int 0), (0, .ref q658441), (1, .int p658443)]) dr_cJ5_charAt_5068e_21 (Nat.le_of_ble_eq_true rfl) rfl ?_
  refine G_iload_n 4 dr_cJ5_charAt_5068e_23 rfl ?_
  refine G_iload 0 dr_cJ5_charAt_5068e_24 rfl ?_
  refine Gw_callS (As := [.int p658443, .int z658454]) (gV_ok D I) (cp_658460_String_checkIndex l hl0 D I P658439 F658440 p658443 z658454 (gB_w bp658443 (by decide) (by decide)) bz658454 (by have qa0 : Int32.toInt 0 = 0 := (by decide); omega)) dr_cJ5_charAt_5068e_26 ⟨wr_11_217, wr_1_21, wr_3_80, by decide, rfl, (Nat.le_of_ble_eq_true rfl), (Nat.le_of_ble_eq_true rfl)⟩ wr_3_79 (show 0 + 0 ≤ 0 by first | omega | decide) (show 0 + 0 ≤ 0 by first | omega | decide) (Nat.le_of_ble_eq_true rfl) (fun r658487 w658488 dc658484 ds658485 hp658486 => ?_) (fun _ _ _ _ _ z => z.elim)
  obtain ⟨rfl, rfl, hdc, hds, ht658489⟩ := hp658486
  change G _ _ _ _ _ _ _ _ _ _ _
  refine G_widen (cs' := 0) (sl' := 0) (by omega) (by omega) ?_
  refine G_iload_n 2 dr_cJ5_charAt_5068e_29 rfl ?_
  refine G_if_ne 42 dr_cJ5_charAt_5068e_30 (by decide +kernel) (fun hc => absurd hc (by decide)) (fun _ => ?_)
  refine G_aload_n 1 dr_cJ5_charAt_5068e_33 rfl ?_
  refine G_iload_n 4 dr_cJ5_charAt_5068e_34 rfl ?_
  refine Gp_bald 1 hmq658442 heq658442 dr_cJ5_charAt_5068e_35 rfl (gB_inr (by omega) (by omega)) (G_nam fun z658490 hz658490 => ?_)
  have bz658490 : gB z658490 (-128) 127 := by rw [hz658490]; exact bf658446 _
  refine G_sipush 255 dr_cJ5_charAt_5068e_36 (by decide +kernel) ?_
  refine G_iand dr_cJ5_charAt_5068e_39 (G_nam fun z658491 hz658491 => ?_)
  have bz658491 : gB z658491 0 255 := gB_and hz658491 (gBl (show Int32.toInt 255 = 255 by decide)) (by decide)
  refine G_i2c dr_cJ5_charAt_5068e_40 (G_nam fun z658492 hz658492 => ?_)
  have bz658492 : gB z658492 0 65535 := gB_i2c hz658492
  exact G_zretA FieldType.char dr_cJ5_charAt_5068e_41 rfl (gN_char bz658492) (Nat.le_of_ble_eq_true rfl) (Nat.le_of_ble_eq_true rfl) ⟨z658492, rfl, rfl, (Nat.le_of_ble_eq_true rfl), (Nat.le_of_ble_eq_true rfl), bz658492, (fun R c1 => c1 z658452 z658453 z658454 z658490 z658491 z658492 ez658452 ez658453 ez658454 ht658489 hz658490 bz658490 hz658491 hz658492)⟩
/- tr_RStringBuilder_charAt: result -/
def tr_RStringBuilder_charAt (a1 : Int32) (a0_count : Int32) (a0_value_v : Nat → Int32) (a0_value_n : Nat) (o1 : Int32) : Prop := ∀ R : (Int32) → Prop,
  (∀ (x1 : Int32), gB x1 0 65535 → tr_RAbstractStringBuilder_charAt a1 a0_count a0_value_v a0_value_n x1 → R x1) →
  R o1
abbrev ky_658438_StringBuilder_charAt : gKey := (cJ4_charAt_5068e, 2, "java/lang/StringBuilder", (some FieldType.char), [], "charAt", fun _ _ => True)
def pp_658438_StringBuilder_charAt (D : va_G) (I : FieldType → ClassId) (P658426 : List Nat) (F658427 : Nat → va_E) (q658428 : Nat) (q658429 : Nat) (p658430 : Int32) (p658431 : Int32) (p658432 : Int32) (f658433 : Nat → Int32) (n658434 : Nat) : Option Value → va_W → Nat → Nat → Prop := fun r w dc ds => ∃ (o658501 : Int32), r = some (.int o658501) ∧ w = va_pl P658426 F658427 ∧ dc ≤ 0 ∧ ds ≤ 0 ∧ gB o658501 0 65535 ∧ tr_RStringBuilder_charAt p658430 p658432 f658433 n658434 o658501
set_option maxRecDepth 100000 in
set_option maxHeartbeats 4000000 in
theorem cp_658438_StringBuilder_charAt (l : Launch) (hl0 : l.stackTraces = false) (D : va_G) (I : FieldType → ClassId) (P658426 : List Nat) (F658427 : Nat → va_E) (q658428 : Nat) (q658429 : Nat) (p658430 : Int32) (p658431 : Int32) (p658432 : Int32) (f658433 : Nat → Int32) (n658434 : Nat) (hmq658428 : q658428 ∈ P658426) (hmq658429 : q658429 ∈ P658426) (heq658428 : F658427 q658428 = .inr (1, [.ref q658429, .int 0, .int p658431, .int p658432])) (heq658429 : F658427 q658429 = .inl (I .byte, n658434, .inl f658433)) (bp658430 : gB p658430 0 16777215) (bp658431 : gB p658431 0 1) (bp658432 : gB p658432 0 16777216) (bf658433 : gF f658433 (-128) 127) (x658435 : p658430.toInt < p658432.toInt) (x658436 : p658432.toInt ≤ (n658434 : Int)) (x658437 : ((n658434 : Int) ≤ 16777216)) : CtA (gV D I) l yJ4_charAt_5068e cJ4_charAt_5068e 2 (some FieldType.char) 3 67 0 0 [.ref q658428, .int p658430] (va_pl P658426 F658427) (pp_658438_StringBuilder_charAt D I P658426 F658427 q658428 q658429 p658430 p658431 p658432 f658433 n658434) gNA := by
  refine CtA_ofF hl0 (by decide +kernel) (Nat.le_of_ble_eq_true rfl) ?_
  refine G_aload_n 0 dr_cJ4_charAt_5068e_0 rfl ?_
  refine G_iload_n 1 dr_cJ4_charAt_5068e_1 rfl ?_
  refine Gw_callSU (As := [.int p658430]) (gV_ok D I) (cp_658451_AbstractStringBuilder_charAt l hl0 D I P658426 F658427 q658428 q658429 p658430 p658431 p658432 f658433 n658434 hmq658428 hmq658429 heq658428 heq658429 bp658430 bp658431 bp658432 bf658433 (by have qa0 : Int32.toInt 0 = 0 := (by decide); omega) (by have qa0 : Int32.toInt 0 = 0 := (by decide); omega) (by have qa0 : Int32.toInt 0 = 0 := (by decide); omega)) dr_cJ4_charAt_5068e_2 ⟨wr_11_213, wr_1_19, wr_11_215, by decide, rfl, (Nat.le_of_ble_eq_true rfl), (Nat.le_of_ble_eq_true rfl)⟩ wr_11_214 wr_11_235 wr_7_73 wr_7_44 (by decide) hmq658428 heq658428 rfl (show 0 + 0 ≤ 0 by first | omega | decide) (show 0 + 0 ≤ 0 by first | omega | decide) (Nat.le_of_ble_eq_true rfl) (fun r658497 w658498 dc658494 ds658495 hp658496 => ?_)
  obtain ⟨o658499, rfl, rfl, hdc, hds, bo658499, ht658500⟩ := hp658496
  change G _ _ _ _ _ _ _ (.int o658499 :: _) _ _ _
  refine G_widen (cs' := 0) (sl' := 0) (by omega) (by omega) ?_
  exact G_zretA FieldType.char dr_cJ4_charAt_5068e_5 rfl (gN_char bo658499) (Nat.le_of_ble_eq_true rfl) (Nat.le_of_ble_eq_true rfl) ⟨o658499, rfl, rfl, (Nat.le_of_ble_eq_true rfl), (Nat.le_of_ble_eq_true rfl), bo658499, (fun R c1 => c1 o658499 bo658499 ht658500)⟩
/- tr_RAbstractStringBuilder_ensureCapacityInternal:  -/
def tr_RAbstractStringBuilder_ensureCapacityInternal (a1 : Int32) (a0_value_n : Nat) : Prop := ∀ R : Prop,
  (∀ (x1 : Int32) (x2 : Int32) (x3 : Int32), x1.toInt = (a0_value_n : Nat) → x2.toInt = x1.toInt / 1 → x3.toInt = a1.toInt - x2.toInt → x3.toInt ≤ 0 → R) →
  R
abbrev ky_658538_AbstractStringBuilder_ensureCapacityInternal : gKey := (cJ5_ensureCapacityInternal_d00df, 3, "java/lang/AbstractStringBuilder", none, [], "ensureCapacityInternal", fun _ _ => True)
def pp_658538_AbstractStringBuilder_ensureCapacityInternal (D : va_G) (I : FieldType → ClassId) (P658527 : List Nat) (F658528 : Nat → va_E) (q658529 : Nat) (q658530 : Nat) (p658531 : Int32) (p658532 : Int32) (p658533 : Int32) (f658534 : Nat → Int32) (n658535 : Nat) : Option Value → va_W → Nat → Nat → Prop := fun r w dc ds => r = none ∧ w = va_pl P658527 F658528 ∧ dc ≤ 0 ∧ ds ≤ 0 ∧ tr_RAbstractStringBuilder_ensureCapacityInternal p658531 n658535
set_option maxRecDepth 100000 in
set_option maxHeartbeats 4000000 in
theorem cp_658538_AbstractStringBuilder_ensureCapacityInternal (l : Launch) (hl0 : l.stackTraces = false) (D : va_G) (I : FieldType → ClassId) (P658527 : List Nat) (F658528 : Nat → va_E) (q658529 : Nat) (q658530 : Nat) (p658531 : Int32) (p658532 : Int32) (p658533 : Int32) (f658534 : Nat → Int32) (n658535 : Nat) (hmq658529 : q658529 ∈ P658527) (hmq658530 : q658530 ∈ P658527) (heq658529 : F658528 q658529 = .inr (1, [.ref q658530, .int 0, .int p658532, .int p658533])) (heq658530 : F658528 q658530 = .inl (I .byte, n658535, .inl f658534)) (bp658531 : gB p658531 0 16777216) (bp658532 : gB p658532 0 1) (bp658533 : gB p658533 0 16777216) (bf658534 : gF f658534 (-128) 127) (x658536 : p658531.toInt ≤ (n658535 : Int)) (x658537 : ((n658535 : Int) ≤ 16777216)) : CtA (gV D I) l yJ5_ensureCapacityInternal_d00df cJ5_ensureCapacityInternal_d00df 3 none 0 0 0 0 [.ref q658529, .int p658531] (va_pl P658527 F658528) (pp_658538_AbstractStringBuilder_ensureCapacityInternal D I P658527 F658528 q658529 q658530 p658531 p658532 p658533 f658534 n658535) gNA := by
  refine CtA_ofF hl0 (by decide +kernel) (Nat.le_of_ble_eq_true rfl) ?_
  refine G_aload_n 0 dr_cJ5_ensureCapacityInternal_d00df_0 rfl ?_
  refine Gp_get 0 hmq658529 heq658529 dr_cJ5_ensureCapacityInternal_d00df_1 (gk_J4 D I) (Nat.le_of_ble_eq_true rfl) wr_7_60 rfl ?_
  refine Gp_alen (Int32.ofNat n658535) 1 hmq658530 heq658530 dr_cJ5_ensureCapacityInternal_d00df_4 rfl rfl (G_nam fun z658539 hz658539 => ?_)
  have ez658539 : z658539.toInt = (n658535 : Nat) := gI_ofM hz658539 (by omega)
  have bz658539 : gB z658539 0 16777216 := ⟨by omega, by omega⟩
  refine G_aload_n 0 dr_cJ5_ensureCapacityInternal_d00df_5 rfl ?_
  refine Gp_get 1 hmq658529 heq658529 dr_cJ5_ensureCapacityInternal_d00df_6 (gk_J4 D I) (Nat.le_of_ble_eq_true rfl) wr_7_61 rfl ?_
  refine G_ishr dr_cJ5_ensureCapacityInternal_d00df_9 (G_nam fun z658540 hz658540 => ?_)
  have ez658540 : z658540.toInt = z658539.toInt / 1 := gI_shr (k := 0) hz658540 (by decide)
  have bz658540 : gB z658540 0 16777216 := ⟨by omega, by omega⟩
  refine G_istore_n (L' := [(2, .int z658540), (0, .ref q658529), (1, .int p658531)]) dr_cJ5_ensureCapacityInternal_d00df_10 (Nat.le_of_ble_eq_true rfl) rfl ?_
  refine G_iload_n 2 dr_cJ5_ensureCapacityInternal_d00df_11 rfl ?_
  refine G_iload_n 0 dr_cJ5_ensureCapacityInternal_d00df_12 rfl ?_
  refine G_isub dr_cJ5_ensureCapacityInternal_d00df_13 (G_nam fun z658541 hz658541 => ?_)
  have ez658541 : z658541.toInt = p658531.toInt - z658540.toInt := by rw [gI_sub hz658541 bp658531 bz658540 (by decide) (by decide)]
  have bz658541 : gB z658541 (-16777216) 16777216 := gB_sub (gI_sub hz658541 bp658531 bz658540 (by decide) (by decide)) bp658531 bz658540 (by decide) (by decide)
  refine G_if_le 38 dr_cJ5_ensureCapacityInternal_d00df_14 (by decide +kernel) (fun hc658542 => ?_) (fun hc => absurd (show False by have := gj_nle hc (show Int32.toInt 0 = 0 by decide); omega) not_false)
  have r658544 : z658541.toInt ≤ 0 := gj_le hc658542 (show Int32.toInt 0 = 0 by decide)
  have bz658541' : gB z658541 (-16777216) 0 := ⟨by omega, by omega⟩
  exact G_vretA dr_cJ5_ensureCapacityInternal_d00df_38 rfl (Nat.le_of_ble_eq_true rfl) (Nat.le_of_ble_eq_true rfl) ⟨rfl, rfl, (Nat.le_of_ble_eq_true rfl), (Nat.le_of_ble_eq_true rfl), (fun R c1 => c1 z658539 z658540 z658541 ez658539 ez658540 ez658541 r658544)⟩
abbrev ky_658560_AbstractStringBuilder_isLatin1 : gKey := (cJ5_isLatin1_aae02, 1, "java/lang/AbstractStringBuilder", (some FieldType.boolean), [], "isLatin1", fun _ _ => True)
def pp_658560_AbstractStringBuilder_isLatin1 (D : va_G) (I : FieldType → ClassId) (P658551 : List Nat) (F658552 : Nat → va_E) (q658553 : Nat) (q658554 : Nat) (p658555 : Int32) (p658556 : Int32) (f658557 : Nat → Int32) (n658558 : Nat) : Option Value → va_W → Nat → Nat → Prop := fun r w dc ds => r = some (.int 1) ∧ w = va_pl P658551 F658552 ∧ dc ≤ 0 ∧ ds ≤ 0
set_option maxRecDepth 100000 in
set_option maxHeartbeats 4000000 in
theorem cp_658560_AbstractStringBuilder_isLatin1 (l : Launch) (hl0 : l.stackTraces = false) (D : va_G) (I : FieldType → ClassId) (P658551 : List Nat) (F658552 : Nat → va_E) (q658553 : Nat) (q658554 : Nat) (p658555 : Int32) (p658556 : Int32) (f658557 : Nat → Int32) (n658558 : Nat) (hmq658553 : q658553 ∈ P658551) (hmq658554 : q658554 ∈ P658551) (heq658553 : F658552 q658553 = .inr (1, [.ref q658554, .int 0, .int p658555, .int p658556])) (heq658554 : F658552 q658554 = .inl (I .byte, n658558, .inl f658557)) (bp658555 : gB p658555 0 1) (bp658556 : gB p658556 0 16777216) (bf658557 : gF f658557 (-128) 127) (x658559 : ((n658558 : Int) ≤ 16777216)) : CtA (gV D I) l yJ5_isLatin1_aae02 cJ5_isLatin1_aae02 1 (some FieldType.boolean) 0 0 0 0 [.ref q658553] (va_pl P658551 F658552) (pp_658560_AbstractStringBuilder_isLatin1 D I P658551 F658552 q658553 q658554 p658555 p658556 f658557 n658558) gNA := by
  refine CtA_ofF hl0 (by decide +kernel) (Nat.le_of_ble_eq_true rfl) ?_
  refine G_gets dr_cJ5_isLatin1_aae02_0 wr_7_52 gz_cs (fun x hx => ?_)
  subst hx
  refine G_if_eq 17 dr_cJ5_isLatin1_aae02_3 (by decide +kernel) (fun hc => absurd hc (by decide)) (fun _ => ?_)
  refine G_aload_n 0 dr_cJ5_isLatin1_aae02_6 rfl ?_
  refine Gp_get 1 hmq658553 heq658553 dr_cJ5_isLatin1_aae02_7 (gk_J4 D I) (Nat.le_of_ble_eq_true rfl) wr_7_61 rfl ?_
  refine G_if_ne 17 dr_cJ5_isLatin1_aae02_10 (by decide +kernel) (fun hc => absurd hc (by decide)) (fun _ => ?_)
  refine G_iconst 1 dr_cJ5_isLatin1_aae02_13 (by decide +kernel) ?_
  refine G_goto 18 dr_cJ5_isLatin1_aae02_14 (by decide +kernel) ?_
  exact G_zretA FieldType.boolean dr_cJ5_isLatin1_aae02_18 rfl rfl (Nat.le_of_ble_eq_true rfl) (Nat.le_of_ble_eq_true rfl) ⟨rfl, rfl, (Nat.le_of_ble_eq_true rfl), (Nat.le_of_ble_eq_true rfl)⟩
/- tr_RStringLatin1_canEncode: result -/
def tr_RStringLatin1_canEncode (a0 : Int32) (o1 : Int32) : Prop := ∀ R : (Int32) → Prop,
  (255 < a0.toInt → R (0 : Int32)) →
  (a0.toInt ≤ 255 → R (1 : Int32)) →
  R o1
abbrev ky_658569_StringLatin1_canEncode : gKey := (cJ1_canEncode_fc78d, 1, "java/lang/StringLatin1", (some FieldType.boolean), [], "canEncode", fun _ _ => True)
def pp_658569_StringLatin1_canEncode (D : va_G) (I : FieldType → ClassId) (P658566 : List Nat) (F658567 : Nat → va_E) (p658568 : Int32) : Option Value → va_W → Nat → Nat → Prop := fun r w dc ds => (r = some (.int 0) ∧ w = va_pl P658566 F658567 ∧ dc ≤ 0 ∧ ds ≤ 0 ∧ 255 < p658568.toInt ∧ tr_RStringLatin1_canEncode p658568 (0 : Int32)) ∨ (r = some (.int 1) ∧ w = va_pl P658566 F658567 ∧ dc ≤ 0 ∧ ds ≤ 0 ∧ p658568.toInt ≤ 255 ∧ tr_RStringLatin1_canEncode p658568 (1 : Int32))
set_option maxRecDepth 100000 in
set_option maxHeartbeats 4000000 in
theorem cp_658569_StringLatin1_canEncode (l : Launch) (hl0 : l.stackTraces = false) (D : va_G) (I : FieldType → ClassId) (P658566 : List Nat) (F658567 : Nat → va_E) (p658568 : Int32) (bp658568 : gB p658568 0 65535) : CtA (gV D I) l yJ1_canEncode_fc78d cJ1_canEncode_fc78d 1 (some FieldType.boolean) 0 0 0 0 [.int p658568] (va_pl P658566 F658567) (pp_658569_StringLatin1_canEncode D I P658566 F658567 p658568) gNA := by
  refine CtA_ofF hl0 (by decide +kernel) (Nat.le_of_ble_eq_true rfl) ?_
  refine G_iload_n 0 dr_cJ1_canEncode_fc78d_0 rfl ?_
  refine G_sipush 255 dr_cJ1_canEncode_fc78d_1 (by decide +kernel) ?_
  refine G_icmp_gt 11 dr_cJ1_canEncode_fc78d_4 (by decide +kernel) (fun hc658570 => ?_) (fun hc658570 => ?_)
  · have r658571 : 255 < p658568.toInt := gj_ltL hc658570 (show Int32.toInt 255 = 255 by decide)
    have bp658568' : gB p658568 256 65535 := ⟨by omega, by omega⟩
    refine G_iconst 0 dr_cJ1_canEncode_fc78d_11 (by decide +kernel) ?_
    exact G_zretA FieldType.boolean dr_cJ1_canEncode_fc78d_12 rfl rfl (Nat.le_of_ble_eq_true rfl) (Nat.le_of_ble_eq_true rfl) (Or.inl ⟨rfl, rfl, (Nat.le_of_ble_eq_true rfl), (Nat.le_of_ble_eq_true rfl), r658571, (fun R c1 c2 => c1 r658571)⟩)
  · have r658572 : p658568.toInt ≤ 255 := gj_nltL hc658570 (show Int32.toInt 255 = 255 by decide)
    have bp658568' : gB p658568 0 255 := ⟨by omega, by omega⟩
    refine G_iconst 1 dr_cJ1_canEncode_fc78d_7 (by decide +kernel) ?_
    refine G_goto 12 dr_cJ1_canEncode_fc78d_8 (by decide +kernel) ?_
    exact G_zretA FieldType.boolean dr_cJ1_canEncode_fc78d_12 rfl rfl (Nat.le_of_ble_eq_true rfl) (Nat.le_of_ble_eq_true rfl) (Or.inr (⟨rfl, rfl, (Nat.le_of_ble_eq_true rfl), (Nat.le_of_ble_eq_true rfl), r658572, (fun R c1 c2 => c2 r658572)⟩))
/- tr_RAbstractStringBuilder_append: a.0...count, a.0.value.[] -/
def tr_RAbstractStringBuilder_append (a1 : Int32) (a0_count : Int32) (a0_value_v : Nat → Int32) (a0_value_n : Nat) (o1 : Int32) (o2 : Nat → Int32) : Prop := ∀ R : (Int32) → (Nat → Int32) → Prop,
  (∀ (x1 : Int32) (x2 : Int32) (x3 : Int32) (x4 : Nat → Int32), x1.toInt = a0_count.toInt + 1 → tr_RAbstractStringBuilder_ensureCapacityInternal x1 a0_value_n → tr_RStringLatin1_canEncode a1 (1 : Int32) → x2.toInt = a0_count.toInt + 1 → x3 = a1.toInt8.toInt32 → x4 = upd a0_value_v a0_count.toNatClampNeg (vp_nar .byte x3) → R x2 x4) →
  R o1 o2
abbrev ky_658525_AbstractStringBuilder_append : gKey := (cJ5_append_3fe6f, 2, "java/lang/AbstractStringBuilder", (some (FieldType.object "java/lang/AbstractStringBuilder")), [], "append", fun _ _ => True)
def pp_658525_AbstractStringBuilder_append (D : va_G) (I : FieldType → ClassId) (P658514 : List Nat) (F658515 : Nat → va_E) (q658516 : Nat) (q658517 : Nat) (p658518 : Int32) (p658519 : Int32) (p658520 : Int32) (f658521 : Nat → Int32) (n658522 : Nat) : Option Value → va_W → Nat → Nat → Prop := fun r w dc ds => ∃ (F658601 : Nat → va_E) (o658598 : Int32) (f658599 : Nat → Int32), r = some (.ref q658516) ∧ w = va_pl P658514 F658601 ∧ rFr [q658517, q658516] P658514 F658515 F658601 ∧ F658601 q658516 = .inr (1, [.ref q658517, .int 0, .int p658519, .int o658598]) ∧ F658601 q658517 = .inl (I .byte, n658522, .inl f658599) ∧ dc ≤ 0 ∧ ds ≤ 0 ∧ gB o658598 1 16777216 ∧ gF f658599 (-128) 127 ∧ o658598.toInt = p658520.toInt + 1 ∧ tr_RAbstractStringBuilder_append p658518 p658520 f658521 n658522 o658598 f658599
set_option maxRecDepth 100000 in
set_option maxHeartbeats 4000000 in
theorem cp_658525_AbstractStringBuilder_append (l : Launch) (hl0 : l.stackTraces = false) (D : va_G) (I : FieldType → ClassId) (P658514 : List Nat) (F658515 : Nat → va_E) (q658516 : Nat) (q658517 : Nat) (p658518 : Int32) (p658519 : Int32) (p658520 : Int32) (f658521 : Nat → Int32) (n658522 : Nat) (hmq658516 : q658516 ∈ P658514) (hmq658517 : q658517 ∈ P658514) (heq658516 : F658515 q658516 = .inr (1, [.ref q658517, .int 0, .int p658519, .int p658520])) (heq658517 : F658515 q658517 = .inl (I .byte, n658522, .inl f658521)) (bp658518 : gB p658518 0 255) (bp658519 : gB p658519 0 1) (bp658520 : gB p658520 0 16777216) (bf658521 : gF f658521 (-128) 127) (x658523 : p658520.toInt < (n658522 : Int)) (x658524 : ((n658522 : Int) ≤ 16777216)) : CtA (gV D I) l yJ5_append_3fe6f cJ5_append_3fe6f 2 (some (FieldType.object "java/lang/AbstractStringBuilder")) 1 22 0 0 [.ref q658516, .int p658518] (va_pl P658514 F658515) (pp_658525_AbstractStringBuilder_append D I P658514 F658515 q658516 q658517 p658518 p658519 p658520 f658521 n658522) gNA := by
  refine CtA_ofF hl0 (by decide +kernel) (Nat.le_of_ble_eq_true rfl) ?_
  refine G_aload_n 0 dr_cJ5_append_3fe6f_0 rfl ?_
  refine G_aload_n 0 dr_cJ5_append_3fe6f_1 rfl ?_
  refine Gp_get 3 hmq658516 heq658516 dr_cJ5_append_3fe6f_2 (gk_J4 D I) (Nat.le_of_ble_eq_true rfl) wr_7_64 rfl ?_
  refine G_iconst 1 dr_cJ5_append_3fe6f_5 (by decide +kernel) ?_
  refine G_iadd dr_cJ5_append_3fe6f_6 (G_nam fun z658526 hz658526 => ?_)
  have ez658526 : z658526.toInt = p658520.toInt + 1 := by rw [gI_add hz658526 bp658520 (gBl (show Int32.toInt 1 = 1 by decide)) (by decide) (by decide), show Int32.toInt 1 = 1 from by decide]
  have bz658526 : gB z658526 1 16777217 := gB_add (gI_add hz658526 bp658520 (gBl (show Int32.toInt 1 = 1 by decide)) (by decide) (by decide)) bp658520 (gBl (show Int32.toInt 1 = 1 by decide)) (by decide) (by decide)
  refine Gw_callVB (As := [.int z658526]) (gV_ok D I) (cp_658538_AbstractStringBuilder_ensureCapacityInternal l hl0 D I P658514 F658515 q658516 q658517 z658526 p658519 p658520 f658521 n658522 hmq658516 hmq658517 heq658516 heq658517 ⟨by omega, by omega⟩ bp658519 bp658520 bf658521 (by have qa0 : Int32.toInt 0 = 0 := (by decide); omega) (by have qa0 : Int32.toInt 0 = 0 := (by decide); omega)) dr_cJ5_append_3fe6f_7 ⟨wr_8_4, wr_1_19, wr_8_7, by decide, rfl, (Nat.le_of_ble_eq_true rfl), (Nat.le_of_ble_eq_true rfl)⟩ wr_8_6 wr_s_0 hmq658516 heq658516 rfl (show 0 + 0 ≤ 0 by first | omega | decide) (show 0 + 0 ≤ 0 by first | omega | decide) (Nat.le_of_ble_eq_true rfl) (fun r658548 w658549 dc658545 ds658546 hp658547 => ?_) (fun _ _ _ _ _ z => z.elim)
  obtain ⟨rfl, rfl, hdc, hds, ht658550⟩ := hp658547
  change G _ _ _ _ _ _ _ _ _ _ _
  refine G_widen (cs' := 0) (sl' := 0) (by omega) (by omega) ?_
  refine G_aload_n 0 dr_cJ5_append_3fe6f_10 rfl ?_
  refine Gw_callVB (As := []) (gV_ok D I) (cp_658560_AbstractStringBuilder_isLatin1 l hl0 D I P658514 F658515 q658516 q658517 p658519 p658520 f658521 n658522 hmq658516 hmq658517 heq658516 heq658517 bp658519 bp658520 bf658521 (by have qa0 : Int32.toInt 0 = 0 := (by decide); omega)) dr_cJ5_append_3fe6f_11 ⟨wr_8_33, wr_1_19, wr_8_37, by decide, rfl, (Nat.le_of_ble_eq_true rfl), (Nat.le_of_ble_eq_true rfl)⟩ wr_8_34 wr_8_36 hmq658516 heq658516 rfl (show 0 + 0 ≤ 0 by first | omega | decide) (show 0 + 0 ≤ 0 by first | omega | decide) (Nat.le_of_ble_eq_true rfl) (fun r658564 w658565 dc658561 ds658562 hp658563 => ?_) (fun _ _ _ _ _ z => z.elim)
  obtain ⟨rfl, rfl, hdc, hds⟩ := hp658563
  change G _ _ _ _ _ _ _ (.int 1 :: _) _ _ _
  refine G_widen (cs' := 0) (sl' := 0) (by omega) (by omega) ?_
  refine G_if_eq 45 dr_cJ5_append_3fe6f_14 (by decide +kernel) (fun hc => absurd hc (by decide)) (fun _ => ?_)
  refine G_iload_n 1 dr_cJ5_append_3fe6f_17 rfl ?_
  refine Gw_callS (As := [.int p658518]) (gV_ok D I) (cp_658569_StringLatin1_canEncode l hl0 D I P658514 F658515 p658518 (gB_w bp658518 (by decide) (by decide))) dr_cJ5_append_3fe6f_18 ⟨wr_8_38, wr_1_28, wr_8_40, by decide, rfl, (Nat.le_of_ble_eq_true rfl), (Nat.le_of_ble_eq_true rfl)⟩ wr_8_39 (show 0 + 0 ≤ 0 by first | omega | decide) (show 0 + 0 ≤ 0 by first | omega | decide) (Nat.le_of_ble_eq_true rfl) (fun r658576 w658577 dc658573 ds658574 hp658575 => ?_) (fun _ _ _ _ _ z => z.elim)
  rcases hp658575 with ⟨rfl, rfl, hdc, hds, r658578, r658579⟩ | ⟨rfl, rfl, hdc, hds, r658580, r658581⟩
  · exact absurd (show False by omega) not_false
  · change G _ _ _ _ _ _ _ (.int 1 :: _) _ _ _
    refine G_widen (cs' := 0) (sl' := 0) (by omega) (by omega) ?_
    refine G_if_eq 45 dr_cJ5_append_3fe6f_21 (by decide +kernel) (fun hc => absurd hc (by decide)) (fun _ => ?_)
    refine G_aload_n 0 dr_cJ5_append_3fe6f_24 rfl ?_
    refine Gp_get 0 hmq658516 heq658516 dr_cJ5_append_3fe6f_25 (gk_J4 D I) (Nat.le_of_ble_eq_true rfl) wr_7_60 rfl ?_
    refine G_aload_n 0 dr_cJ5_append_3fe6f_28 rfl ?_
    refine G_dup dr_cJ5_append_3fe6f_29 rfl ?_
    refine Gp_get 3 hmq658516 heq658516 dr_cJ5_append_3fe6f_30 (gk_J4 D I) (Nat.le_of_ble_eq_true rfl) wr_7_64 rfl ?_
    refine G_dup_x1 dr_cJ5_append_3fe6f_33 rfl rfl ?_
    refine G_iconst 1 dr_cJ5_append_3fe6f_34 (by decide +kernel) ?_
    refine G_iadd dr_cJ5_append_3fe6f_35 (G_nam fun z658583 hz658583 => ?_)
    have ez658583 : z658583.toInt = p658520.toInt + 1 := by rw [gI_add hz658583 bp658520 (gBl (show Int32.toInt 1 = 1 by decide)) (by decide) (by decide), show Int32.toInt 1 = 1 from by decide]
    have bz658583 : gB z658583 1 16777217 := gB_add (gI_add hz658583 bp658520 (gBl (show Int32.toInt 1 = 1 by decide)) (by decide) (by decide)) bp658520 (gBl (show Int32.toInt 1 = 1 by decide)) (by decide) (by decide)
    refine Gp_put 3 hmq658516 heq658516 dr_cJ5_append_3fe6f_36 (gk_J4 D I) (Nat.le_of_ble_eq_true rfl) wr_7_64 rfl rfl rfl (Nat.le_of_ble_eq_true rfl) (fun F658584 e658585 n658586 => ?_)
    have he658587 : F658584 q658517 = .inl (I .byte, n658522, .inl f658521) := (n658586 q658517 (rn_ao heq658517 heq658516)).trans heq658517
    have he658588 : F658584 q658516 = .inr (1, [.ref q658517, .int 0, .int p658519, .int z658583]) := e658585
    have hfr658589 : rFr [q658516] P658514 F658515 F658584 := rFr_put (rFr_rf (W := []) (P := P658514) (F := F658515)) n658586
    refine G_iload_n 1 dr_cJ5_append_3fe6f_39 rfl ?_
    refine G_i2b dr_cJ5_append_3fe6f_40 (G_nam fun z658590 hz658590 => ?_)
    have bz658590 : gB z658590 (-128) 127 := gB_i2b hz658590
    refine Gp_bast 1 hmq658517 he658587 dr_cJ5_append_3fe6f_41 rfl (gB_inr (by omega) (by omega)) (fun F658591 e658592 n658593 => ?_)
    obtain ⟨f658594, hf658594⟩ : ∃ z, z = upd f658521 p658520.toNatClampNeg (vp_nar .byte z658590) := ⟨_, rfl⟩
    rw [← hf658594] at e658592
    have he658595 : F658591 q658516 = .inr (1, [.ref q658517, .int 0, .int p658519, .int z658583]) := (n658593 q658516 (rn_oa he658588 he658587)).trans he658588
    have he658596 : F658591 q658517 = .inl (I .byte, n658522, .inl f658594) := e658592
    have hfr658597 : rFr [q658517, q658516] P658514 F658515 F658591 := rFr_put hfr658589 n658593
    have bf658594 : gF f658594 (-128) 127 := gF_upd hf658594 bf658521 gB_byte
    refine G_goto 75 dr_cJ5_append_3fe6f_42 (by decide +kernel) ?_
    refine G_aload_n 0 dr_cJ5_append_3fe6f_75 rfl ?_
    exact G_aretA (FieldType.object "java/lang/AbstractStringBuilder") dr_cJ5_append_3fe6f_76 rfl (by first | exact Or.inl ⟨_, rfl⟩ | exact Or.inr ⟨_, rfl⟩) (Or.inr ⟨_, rfl⟩) (Nat.le_of_ble_eq_true rfl) (Nat.le_of_ble_eq_true rfl) ⟨F658591, z658583, f658594, rfl, rfl, hfr658597, he658595, he658596, (Nat.le_of_ble_eq_true rfl), (Nat.le_of_ble_eq_true rfl), ⟨by omega, by omega⟩, bf658594, (by have qa0 : Int32.toInt 0 = 0 := (by decide); omega), (fun R c1 => c1 z658526 z658583 z658590 f658594 ez658526 ht658550 r658581 ez658583 hz658590 hf658594)⟩
/- tr_RStringBuilder_append: a.0...count, a.0.value.[] -/
def tr_RStringBuilder_append (a1 : Int32) (a0_count : Int32) (a0_value_v : Nat → Int32) (a0_value_n : Nat) (o1 : Int32) (o2 : Nat → Int32) : Prop := ∀ R : (Int32) → (Nat → Int32) → Prop,
  (∀ (x1 : Int32) (x2 : Nat → Int32), gB x1 1 16777216 → tr_RAbstractStringBuilder_append a1 a0_count a0_value_v a0_value_n x1 x2 → R x1 x2) →
  R o1 o2
abbrev ky_658513_StringBuilder_append : gKey := (cJ4_append_cf468, 2, "java/lang/StringBuilder", (some (FieldType.object "java/lang/StringBuilder")), [], "append", fun _ _ => True)
def pp_658513_StringBuilder_append (D : va_G) (I : FieldType → ClassId) (P658502 : List Nat) (F658503 : Nat → va_E) (q658504 : Nat) (q658505 : Nat) (p658506 : Int32) (p658507 : Int32) (p658508 : Int32) (f658509 : Nat → Int32) (n658510 : Nat) : Option Value → va_W → Nat → Nat → Prop := fun r w dc ds => ∃ (F658620 : Nat → va_E) (o658617 : Int32) (f658618 : Nat → Int32), r = some (.ref q658504) ∧ w = va_pl P658502 F658620 ∧ rFr [q658505, q658504] P658502 F658503 F658620 ∧ F658620 q658504 = .inr (1, [.ref q658505, .int 0, .int p658507, .int o658617]) ∧ F658620 q658505 = .inl (I .byte, n658510, .inl f658618) ∧ dc ≤ 0 ∧ ds ≤ 0 ∧ gB o658617 1 16777216 ∧ gF f658618 (-128) 127 ∧ o658617.toInt = p658508.toInt + 1 ∧ tr_RStringBuilder_append p658506 p658508 f658509 n658510 o658617 f658618
set_option maxRecDepth 100000 in
set_option maxHeartbeats 4000000 in
theorem cp_658513_StringBuilder_append (l : Launch) (hl0 : l.stackTraces = false) (D : va_G) (I : FieldType → ClassId) (P658502 : List Nat) (F658503 : Nat → va_E) (q658504 : Nat) (q658505 : Nat) (p658506 : Int32) (p658507 : Int32) (p658508 : Int32) (f658509 : Nat → Int32) (n658510 : Nat) (hmq658504 : q658504 ∈ P658502) (hmq658505 : q658505 ∈ P658502) (heq658504 : F658503 q658504 = .inr (1, [.ref q658505, .int 0, .int p658507, .int p658508])) (heq658505 : F658503 q658505 = .inl (I .byte, n658510, .inl f658509)) (bp658506 : gB p658506 0 255) (bp658507 : gB p658507 0 1) (bp658508 : gB p658508 0 16777216) (bf658509 : gF f658509 (-128) 127) (x658511 : p658508.toInt < (n658510 : Int)) (x658512 : ((n658510 : Int) ≤ 16777216)) : CtA (gV D I) l yJ4_append_cf468 cJ4_append_cf468 2 (some (FieldType.object "java/lang/StringBuilder")) 2 43 0 0 [.ref q658504, .int p658506] (va_pl P658502 F658503) (pp_658513_StringBuilder_append D I P658502 F658503 q658504 q658505 p658506 p658507 p658508 f658509 n658510) gNA := by
  refine CtA_ofF hl0 (by decide +kernel) (Nat.le_of_ble_eq_true rfl) ?_
  refine G_aload_n 0 dr_cJ4_append_cf468_0 rfl ?_
  refine G_iload_n 1 dr_cJ4_append_cf468_1 rfl ?_
  refine Gw_callSU (As := [.int p658506]) (gV_ok D I) (cp_658525_AbstractStringBuilder_append l hl0 D I P658502 F658503 q658504 q658505 p658506 p658507 p658508 f658509 n658510 hmq658504 hmq658505 heq658504 heq658505 bp658506 bp658507 bp658508 bf658509 (by have qa0 : Int32.toInt 0 = 0 := (by decide); omega) (by have qa0 : Int32.toInt 0 = 0 := (by decide); omega)) dr_cJ4_append_cf468_2 ⟨wr_8_1, wr_1_19, wr_8_3, by decide, rfl, (Nat.le_of_ble_eq_true rfl), (Nat.le_of_ble_eq_true rfl)⟩ wr_8_2 wr_11_224 wr_7_73 wr_7_44 (by decide) hmq658504 heq658504 rfl (show 0 + 0 ≤ 0 by first | omega | decide) (show 0 + 0 ≤ 0 by first | omega | decide) (Nat.le_of_ble_eq_true rfl) (fun r658605 w658606 dc658602 ds658603 hp658604 => ?_)
  obtain ⟨F658611, o658607, f658608, rfl, rfl, hfr658613, he658614, he658615, hdc, hds, bo658607, bf658608, x658609, ht658610⟩ := hp658604
  have hfr658616 : rFr [q658505, q658504] P658502 F658503 F658611 := rFr_call (rSub_rf (P := P658502)) (rFr_rf (W := []) (P := P658502) (F := F658503)) hfr658613 (fun b hb hn => ⟨nm_n, (nm_c (fun e => hn (e ▸ List.mem_cons_self)) (nm_c (fun e => hn (e ▸ (List.mem_cons_of_mem _ List.mem_cons_self))) nm_n))⟩)
  change G _ _ _ _ _ _ _ (.ref q658504 :: _) _ _ _
  refine G_widen (cs' := 0) (sl' := 0) (by omega) (by omega) ?_
  refine G_pop dr_cJ4_append_cf468_5 rfl ?_
  refine G_aload_n 0 dr_cJ4_append_cf468_6 rfl ?_
  exact G_aretA (FieldType.object "java/lang/StringBuilder") dr_cJ4_append_cf468_7 rfl (by first | exact Or.inl ⟨_, rfl⟩ | exact Or.inr ⟨_, rfl⟩) (Or.inr ⟨_, rfl⟩) (Nat.le_of_ble_eq_true rfl) (Nat.le_of_ble_eq_true rfl) ⟨F658611, o658607, f658608, rfl, rfl, hfr658616, he658614, he658615, (Nat.le_of_ble_eq_true rfl), (Nat.le_of_ble_eq_true rfl), bo658607, bf658608, (by have qa0 : Int32.toInt 0 = 0 := (by decide); omega), (fun R c1 => c1 o658607 f658608 bo658607 ht658610)⟩
/- tr_RAbstractStringBuilder_newCapacity: result -/
def tr_RAbstractStringBuilder_newCapacity (a1 : Int32) (a0_value_n : Nat) (o1 : Int32) : Prop := ∀ R : (Int32) → Prop,
  (∀ (x1 : Int32) (x2 : Int32) (x3 : Int32) (x4 : Int32) (x5 : Int32) (x6 : Int32) (x7 : Int32), x1.toInt = (a0_value_n : Nat) → x2.toInt = a1.toInt * 1 → x3.toInt = x2.toInt - x1.toInt → x4.toInt = 2 * 1 → x5.toInt = x1.toInt + x4.toInt → gB x6 1 33554432 → tr_RArraysSupport_newLength x1 x3 x5 x6 → x7.toInt = x6.toInt / 1 → R x7) →
  R o1
abbrev ky_658678_AbstractStringBuilder_newCapacity : gKey := (cJ5_newCapacity_0f7a4, 6, "java/lang/AbstractStringBuilder", (some FieldType.int), [], "newCapacity", fun _ _ => True)
def pp_658678_AbstractStringBuilder_newCapacity (D : va_G) (I : FieldType → ClassId) (P658666 : List Nat) (F658667 : Nat → va_E) (q658668 : Nat) (q658669 : Nat) (p658670 : Int32) (p658671 : Int32) (p658672 : Int32) (f658673 : Nat → Int32) (n658674 : Nat) : Option Value → va_W → Nat → Nat → Prop := fun r w dc ds => ∃ (o658693 : Int32), r = some (.int o658693) ∧ w = va_pl P658666 F658667 ∧ dc ≤ 0 ∧ ds ≤ 0 ∧ gB o658693 1 33554432 ∧ p658670.toInt ≤ o658693.toInt ∧ 2 * (n658674 : Int) + 2 ≤ o658693.toInt ∧ (o658693.toInt ≤ 2 * (n658674 : Int) + 2 ∨ o658693.toInt ≤ p658670.toInt) ∧ tr_RAbstractStringBuilder_newCapacity p658670 n658674 o658693
set_option maxRecDepth 100000 in
set_option maxHeartbeats 4000000 in
theorem cp_658678_AbstractStringBuilder_newCapacity (l : Launch) (hl0 : l.stackTraces = false) (D : va_G) (I : FieldType → ClassId) (P658666 : List Nat) (F658667 : Nat → va_E) (q658668 : Nat) (q658669 : Nat) (p658670 : Int32) (p658671 : Int32) (p658672 : Int32) (f658673 : Nat → Int32) (n658674 : Nat) (hmq658668 : q658668 ∈ P658666) (hmq658669 : q658669 ∈ P658666) (heq658668 : F658667 q658668 = .inr (1, [.ref q658669, .int 0, .int p658671, .int p658672])) (heq658669 : F658667 q658669 = .inl (I .byte, n658674, .inl f658673)) (bp658670 : gB p658670 0 8388608) (bp658671 : gB p658671 0 1) (bp658672 : gB p658672 0 16777216) (bf658673 : gF f658673 (-128) 127) (x658675 : (n658674 : Int) < p658670.toInt) (x658676 : (n658674 : Int) ≤ 8388608) (x658677 : ((n658674 : Int) ≤ 16777216)) : CtA (gV D I) l yJ5_newCapacity_0f7a4 cJ5_newCapacity_0f7a4 6 (some FieldType.int) 2 37 0 0 [.ref q658668, .int p658670] (va_pl P658666 F658667) (pp_658678_AbstractStringBuilder_newCapacity D I P658666 F658667 q658668 q658669 p658670 p658671 p658672 f658673 n658674) gNA := by
  refine CtA_ofF hl0 (by decide +kernel) (Nat.le_of_ble_eq_true rfl) ?_
  refine G_aload_n 0 dr_cJ5_newCapacity_0f7a4_0 rfl ?_
  refine Gp_get 0 hmq658668 heq658668 dr_cJ5_newCapacity_0f7a4_1 (gk_J4 D I) (Nat.le_of_ble_eq_true rfl) wr_7_60 rfl ?_
  refine Gp_alen (Int32.ofNat n658674) 1 hmq658669 heq658669 dr_cJ5_newCapacity_0f7a4_4 rfl rfl (G_nam fun z658679 hz658679 => ?_)
  have ez658679 : z658679.toInt = (n658674 : Nat) := gI_ofM hz658679 (by omega)
  have bz658679 : gB z658679 0 16777216 := ⟨by omega, by omega⟩
  refine G_istore_n (L' := [(2, .int z658679), (0, .ref q658668), (1, .int p658670)]) dr_cJ5_newCapacity_0f7a4_5 (Nat.le_of_ble_eq_true rfl) rfl ?_
  refine G_iload_n 2 dr_cJ5_newCapacity_0f7a4_6 rfl ?_
  refine G_aload_n 1 dr_cJ5_newCapacity_0f7a4_7 rfl ?_
  refine Gp_get 1 hmq658668 heq658668 dr_cJ5_newCapacity_0f7a4_8 (gk_J4 D I) (Nat.le_of_ble_eq_true rfl) wr_7_61 rfl ?_
  refine G_ishl dr_cJ5_newCapacity_0f7a4_11 (G_nam fun z658680 hz658680 => ?_)
  have ez658680 : z658680.toInt = p658670.toInt * 1 := gI_shl (k := 0) hz658680 (by decide) bp658670 (by decide) (by decide)
  have bz658680 : gB z658680 0 8388608 := ⟨by omega, by omega⟩
  refine G_istore_n (L' := [(3, .int z658680), (2, .int z658679), (0, .ref q658668), (1, .int p658670)]) dr_cJ5_newCapacity_0f7a4_12 (Nat.le_of_ble_eq_true rfl) rfl ?_
  refine G_iload_n 0 dr_cJ5_newCapacity_0f7a4_13 rfl ?_
  refine G_iload_n 1 dr_cJ5_newCapacity_0f7a4_14 rfl ?_
  refine G_isub dr_cJ5_newCapacity_0f7a4_15 (G_nam fun z658681 hz658681 => ?_)
  have ez658681 : z658681.toInt = z658680.toInt - z658679.toInt := by rw [gI_sub hz658681 bz658680 bz658679 (by decide) (by decide)]
  have bz658681 : gB z658681 (-16777216) 8388608 := gB_sub (gI_sub hz658681 bz658680 bz658679 (by decide) (by decide)) bz658680 bz658679 (by decide) (by decide)
  refine G_istore (L' := [(4, .int z658681), (3, .int z658680), (2, .int z658679), (0, .ref q658668), (1, .int p658670)]) dr_cJ5_newCapacity_0f7a4_16 (Nat.le_of_ble_eq_true rfl) rfl ?_
  refine G_iload_n 2 dr_cJ5_newCapacity_0f7a4_18 rfl ?_
  refine G_iload 0 dr_cJ5_newCapacity_0f7a4_19 rfl ?_
  refine G_iload_n 2 dr_cJ5_newCapacity_0f7a4_21 rfl ?_
  refine G_iconst 2 dr_cJ5_newCapacity_0f7a4_22 (by decide +kernel) ?_
  refine G_aload_n 3 dr_cJ5_newCapacity_0f7a4_23 rfl ?_
  refine Gp_get 1 hmq658668 heq658668 dr_cJ5_newCapacity_0f7a4_24 (gk_J4 D I) (Nat.le_of_ble_eq_true rfl) wr_7_61 rfl ?_
  refine G_ishl dr_cJ5_newCapacity_0f7a4_27 (G_nam fun z658682 hz658682 => ?_)
  have ez658682 : z658682.toInt = 2 * 1 := gI_shl (k := 0) hz658682 (by decide) (gBl (show Int32.toInt 2 = 2 by decide)) (by decide) (by decide)
  have bz658682 : gB z658682 2 2 := ⟨by omega, by omega⟩
  refine G_iadd dr_cJ5_newCapacity_0f7a4_28 (G_nam fun z658683 hz658683 => ?_)
  have ez658683 : z658683.toInt = z658679.toInt + z658682.toInt := by rw [gI_add hz658683 bz658679 bz658682 (by decide) (by decide)]
  have bz658683 : gB z658683 2 16777218 := gB_add (gI_add hz658683 bz658679 bz658682 (by decide) (by decide)) bz658679 bz658682 (by decide) (by decide)
  refine Gw_callS (As := [.int z658679, .int z658681, .int z658683]) (gV_ok D I) (cp_355_ArraysSupport_newLength l hl0 D I P658666 F658667 z658679 z658681 z658683 bz658679 ⟨by omega, by omega⟩ ⟨by omega, by omega⟩) dr_cJ5_newCapacity_0f7a4_29 ⟨wr_8_12, wr_1_33, wr_8_14, by decide, rfl, (Nat.le_of_ble_eq_true rfl), (Nat.le_of_ble_eq_true rfl)⟩ wr_8_13 (show 0 + 0 ≤ 0 by first | omega | decide) (show 0 + 0 ≤ 0 by first | omega | decide) (Nat.le_of_ble_eq_true rfl) (fun r658687 w658688 dc658684 ds658685 hp658686 => ?_) (fun _ _ _ _ _ z => z.elim)
  obtain ⟨o658689, rfl, rfl, hdc, hds, bo658689, x658690, ht658691⟩ := hp658686
  change G _ _ _ _ _ _ _ (.int o658689 :: _) _ _ _
  refine G_widen (cs' := 0) (sl' := 0) (by omega) (by omega) ?_
  refine G_istore (L' := [(5, .int o658689), (4, .int z658681), (3, .int z658680), (2, .int z658679), (0, .ref q658668), (1, .int p658670)]) dr_cJ5_newCapacity_0f7a4_32 (Nat.le_of_ble_eq_true rfl) rfl ?_
  refine G_iload 0 dr_cJ5_newCapacity_0f7a4_34 rfl ?_
  refine G_ldc 2147483647 dr_cJ5_newCapacity_0f7a4_36 wr_8_20 ?_
  refine G_icmp_ne 51 dr_cJ5_newCapacity_0f7a4_38 (by decide +kernel) (fun _ => ?_) (fun hc => absurd (show False by have := gj_eq hc (show Int32.toInt 2147483647 = 2147483647 by decide); omega) not_false)
  refine G_iload 0 dr_cJ5_newCapacity_0f7a4_51 rfl ?_
  refine G_aload_n 4 dr_cJ5_newCapacity_0f7a4_53 rfl ?_
  refine Gp_get 1 hmq658668 heq658668 dr_cJ5_newCapacity_0f7a4_54 (gk_J4 D I) (Nat.le_of_ble_eq_true rfl) wr_7_61 rfl ?_
  refine G_ishr dr_cJ5_newCapacity_0f7a4_57 (G_nam fun z658692 hz658692 => ?_)
  have ez658692 : z658692.toInt = o658689.toInt / 1 := gI_shr (k := 0) hz658692 (by decide)
  have bz658692 : gB z658692 1 33554432 := ⟨by omega, by omega⟩
  exact G_iretA dr_cJ5_newCapacity_0f7a4_58 rfl (Nat.le_of_ble_eq_true rfl) (Nat.le_of_ble_eq_true rfl) ⟨z658692, rfl, rfl, (Nat.le_of_ble_eq_true rfl), (Nat.le_of_ble_eq_true rfl), bz658692, (by have qa0 : Int32.toInt 0 = 0 := (by decide); omega), (by have qa0 : Int32.toInt 0 = 0 := (by decide); omega), (by have qa0 : Int32.toInt 0 = 0 := (by decide); omega), (fun R c1 => c1 z658679 z658680 z658681 z658682 z658683 o658689 z658692 ez658679 ez658680 ez658681 ez658682 ez658683 bo658689 ht658691 ez658692)⟩
/- tr_RArrays_copyOf3: a.2.[] -/
def tr_RArrays_copyOf3 (a1 : Int32) (a0_v : Nat → Int32) (a0_n : Nat) (o1 : Nat → Int32) : Prop := ∀ R : (Nat → Int32) → Prop,
  (∀ (x1 : Int32) (x2 : Int32) (x3 : Int32) (x4 : Nat → Int32), x1.toInt = (a0_n : Nat) → a1.toInt ≠ x1.toInt → x2.toInt = (a0_n : Nat) → (x2.toInt ≥ x3.toInt ∧ a1.toInt ≥ x3.toInt ∧ (x3.toInt = x2.toInt ∨ x3.toInt = a1.toInt)) → (x4 = va_cpy a0_v (fun _ => 0) (0 : Int32).toNatClampNeg (0 : Int32).toNatClampNeg x3.toNatClampNeg) → R x4) →
  R o1
abbrev ky_658713_Arrays_copyOf : gKey := (cJ7_copyOf_9075b, 3, "java/util/Arrays", (some (FieldType.array FieldType.byte)), [], "copyOf", fun _ _ => True)
def pp_658713_Arrays_copyOf (D : va_G) (I : FieldType → ClassId) (P658705 : List Nat) (F658706 : Nat → va_E) (q658707 : Nat) (p658708 : Int32) (f658709 : Nat → Int32) (n658710 : Nat) : Option Value → va_W → Nat → Nat → Prop := fun r w dc ds => ∃ (P658743 : List Nat) (F658744 : Nat → va_E) (q658741 : Nat) (f658742 : Nat → Int32), r = some (.ref q658741) ∧ w = va_pl P658743 F658744 ∧ rSub P658705 P658743 ∧ rFr [] P658705 F658706 F658744 ∧ F658744 q658707 = .inl (I .byte, n658710, .inl f658709) ∧ F658744 q658741 = .inl (I .byte, p658708.toInt.toNat, .inl f658742) ∧ q658741 ∈ P658743 ∧ q658741 ∉ P658705 ∧ dc ≤ 1 ∧ ds ≤ p658708.toInt.toNat ∧ gF f658742 (-128) 127 ∧ tr_RArrays_copyOf3 p658708 f658709 n658710 f658742
set_option maxRecDepth 100000 in
set_option maxHeartbeats 4000000 in
theorem cp_658713_Arrays_copyOf (l : Launch) (hl0 : l.stackTraces = false) (D : va_G) (I : FieldType → ClassId) (P658705 : List Nat) (F658706 : Nat → va_E) (q658707 : Nat) (p658708 : Int32) (f658709 : Nat → Int32) (n658710 : Nat) (hmq658707 : q658707 ∈ P658705) (heq658707 : F658706 q658707 = .inl (I .byte, n658710, .inl f658709)) (bp658708 : gB p658708 0 33554432) (bf658709 : gF f658709 (-128) 127) (x658711 : (n658710 : Int) < p658708.toInt) (x658712 : ((n658710 : Int) ≤ 16777216)) : CtA (gV D I) l yJ7_copyOf_9075b cJ7_copyOf_9075b 3 (some (FieldType.array FieldType.byte)) 1 18 1 p658708.toInt.toNat [.ref q658707, .int p658708] (va_pl P658705 F658706) (pp_658713_Arrays_copyOf D I P658705 F658706 q658707 p658708 f658709 n658710) gNA := by
  refine CtA_ofF hl0 (by decide +kernel) (Nat.le_of_ble_eq_true rfl) ?_
  refine G_iload_n 1 dr_cJ7_copyOf_9075b_0 rfl ?_
  refine G_aload_n 0 dr_cJ7_copyOf_9075b_1 rfl ?_
  refine Gp_alen (Int32.ofNat n658710) 1 hmq658707 heq658707 dr_cJ7_copyOf_9075b_2 rfl rfl (G_nam fun z658714 hz658714 => ?_)
  have ez658714 : z658714.toInt = (n658710 : Nat) := gI_ofM hz658714 (by omega)
  have bz658714 : gB z658714 0 16777216 := ⟨by omega, by omega⟩
  refine G_icmp_ne 14 dr_cJ7_copyOf_9075b_3 (by decide +kernel) (fun hc658715 => ?_) (fun hc => absurd (show False by have := gC_eq hc; omega) not_false)
  have r658717 : p658708.toInt ≠ z658714.toInt := gC_ne hc658715
  refine G_iload_n 1 dr_cJ7_copyOf_9075b_14 rfl ?_
  refine G_newa 1 (p658708.toInt.toNat, .inl (fun _ => 0)) dr_cJ7_copyOf_9075b_15 rfl rfl (by intro C h; cases h) wr_1_66 (fun _ => ga_byte _ _) (g_n0 (by omega)) rfl (show p658708.toInt.toNat * 1 ≤ 536870912 by omega) (show 0 + 1 ≤ 1 by first | omega | decide) (show 0 + p658708.toInt.toNat ≤ p658708.toInt.toNat by first | omega | decide) (fun q658718 => Gp_in (fun P658719 F658720 hq658721 hP658722 e658723 n658724 => ?_))
  refine G_widen (cs' := 1) (sl' := p658708.toInt.toNat) (by omega) (by omega) ?_
  have he658725 : F658720 q658707 = .inl (I .byte, n658710, .inl f658709) := (n658724 q658707 (fun h => hq658721 (h ▸ hmq658707))).trans heq658707
  have he658726 : F658720 q658718 = .inl (I .byte, p658708.toInt.toNat, .inl (fun _ => 0)) := e658723
  have hm658727 : q658707 ∈ P658719 := (hP658722 q658707).mpr (Or.inl hmq658707)
  have hm658728 : q658718 ∈ P658719 := (hP658722 q658718).mpr (Or.inr rfl)
  have hq658729 : q658718 ∉ P658705 := fun z => hq658721 ((rSub_rf (P := P658705)) q658718 z)
  have hfr658730 : rFr [] P658705 F658706 F658720 := rFr_new (rSub_rf (P := P658705)) hq658721 (rFr_rf (W := []) (P := P658705) (F := F658706)) n658724
  have hsb658731 : rSub P658705 P658719 := rSub_new (rSub_rf (P := P658705)) hP658722
  refine G_astore_n (L' := [(2, .ref q658718), (0, .ref q658707), (1, .int p658708)]) dr_cJ7_copyOf_9075b_17 (Nat.le_of_ble_eq_true rfl) rfl ?_
  refine G_aload_n 1 dr_cJ7_copyOf_9075b_18 rfl ?_
  refine G_iconst 0 dr_cJ7_copyOf_9075b_19 (by decide +kernel) ?_
  refine G_aload_n 0 dr_cJ7_copyOf_9075b_20 rfl ?_
  refine G_iconst 0 dr_cJ7_copyOf_9075b_21 (by decide +kernel) ?_
  refine G_aload_n 1 dr_cJ7_copyOf_9075b_22 rfl ?_
  refine Gp_alen (Int32.ofNat n658710) 1 hm658727 he658725 dr_cJ7_copyOf_9075b_23 rfl rfl (G_nam fun z658732 hz658732 => ?_)
  have ez658732 : z658732.toInt = (n658710 : Nat) := gI_ofM hz658732 (by omega)
  have bz658732 : gB z658732 0 16777216 := ⟨by omega, by omega⟩
  refine G_iload_n 2 dr_cJ7_copyOf_9075b_24 rfl ?_
  refine G_mmin dr_cJ7_copyOf_9075b_25 wr_8_31 wr_3_227 wr_1_6 wr_3_228 (Nat.le_of_ble_eq_true rfl) (Nat.le_of_ble_eq_true rfl) (show 1 ≤ 1 by first | omega | decide) (show p658708.toInt.toNat ≤ p658708.toInt.toNat by first | omega | decide) (G_nam fun z658733 hz658733 => ?_)
  have ez658733 : z658732.toInt ≥ z658733.toInt ∧ p658708.toInt ≥ z658733.toInt ∧ (z658733.toInt = z658732.toInt ∨ z658733.toInt = p658708.toInt) := by have := gI_min hz658733; omega
  have bz658733 : gB z658733 0 16777216 := ⟨by omega, by omega⟩
  refine Gp_copyp 1 hm658727 hm658728 he658725 he658726 dr_cJ7_copyOf_9075b_28 wr_8_32 wr_5_113 wr_5_112 wr_1_34 rfl rfl (fun j => gT_byte (bf658709 j)) (by decide) (by decide) (by omega) (by have qa0 : Int32.toInt 0 = 0 := (by decide); omega) (by have qa0 : Int32.toInt 0 = 0 := (by decide); omega) (Nat.le_of_ble_eq_true rfl) (Nat.le_of_ble_eq_true rfl) (fun F658734 e658735 n658736 => ?_)
  obtain ⟨f658737, hf658737⟩ : ∃ z, z = va_cpy f658709 (fun _ => 0) (0 : Int32).toNatClampNeg (0 : Int32).toNatClampNeg z658733.toNatClampNeg := ⟨_, rfl⟩
  rw [← hf658737] at e658735
  have bf658737 : gF f658737 (-128) 127 := gF_cpy hf658737 bf658709 (gF_w gF_0 (by decide) (by decide))
  have he658738 : F658734 q658707 = .inl (I .byte, n658710, .inl f658709) := (n658736 q658707 (fun h => hq658729 (h ▸ hmq658707))).trans he658725
  have he658739 : F658734 q658718 = .inl (I .byte, p658708.toInt.toNat, .inl f658737) := e658735
  have hfr658740 : rFr [] P658705 F658706 F658734 := rFr_newp hq658729 hfr658730 n658736
  refine G_aload_n 0 dr_cJ7_copyOf_9075b_31 rfl ?_
  exact G_aretA (FieldType.array FieldType.byte) dr_cJ7_copyOf_9075b_32 rfl (by first | exact Or.inl ⟨_, rfl⟩ | exact Or.inr ⟨_, rfl⟩) (Or.inr ⟨_, rfl⟩) (Nat.le_of_ble_eq_true rfl) (show p658708.toInt.toNat ≤ p658708.toInt.toNat by omega) ⟨P658719, F658734, q658718, f658737, rfl, rfl, hsb658731, hfr658740, he658738, he658739, hm658728, hq658729, (Nat.le_of_ble_eq_true rfl), (by omega), bf658737, (fun R c1 => c1 z658714 z658732 z658733 f658737 ez658714 r658717 ez658732 ez658733 hf658737)⟩
/- tr_RAbstractStringBuilder_ensureCapacityInternal2: a.0.value.#, a.0.value.[] -/
def tr_RAbstractStringBuilder_ensureCapacityInternal2 (a1 : Int32) (a0_value_v : Nat → Int32) (a0_value_n : Nat) (o1 : Nat) (o2 : Nat → Int32) : Prop := ∀ R : (Nat) → (Nat → Int32) → Prop,
  (∀ (x1 : Int32) (x2 : Int32) (x3 : Int32), x1.toInt = (a0_value_n : Nat) → x2.toInt = x1.toInt / 1 → x3.toInt = a1.toInt - x2.toInt → x3.toInt ≤ 0 → R a0_value_n a0_value_v) →
  (∀ (x1 : Int32) (x2 : Int32) (x3 : Int32) (x4 : Int32) (x5 : Int32) (x6 : Nat → Int32), x1.toInt = (a0_value_n : Nat) → x2.toInt = x1.toInt / 1 → x3.toInt = a1.toInt - x2.toInt → 0 < x3.toInt → gB x4 1 33554432 → tr_RAbstractStringBuilder_newCapacity a1 a0_value_n x4 → x5.toInt = x4.toInt * 1 → tr_RArrays_copyOf3 x5 a0_value_v a0_value_n x6 → R x5.toInt.toNat x6) →
  R o1 o2
abbrev ky_658659_AbstractStringBuilder_ensureCapacityInternal : gKey := (cJ5_ensureCapacityInternal_d00df, 3, "java/lang/AbstractStringBuilder", none, [], "ensureCapacityInternal", fun _ _ => True)
def pp_658659_AbstractStringBuilder_ensureCapacityInternal (D : va_G) (I : FieldType → ClassId) (P658648 : List Nat) (F658649 : Nat → va_E) (q658650 : Nat) (q658651 : Nat) (p658652 : Int32) (p658653 : Int32) (p658654 : Int32) (f658655 : Nat → Int32) (n658656 : Nat) : Option Value → va_W → Nat → Nat → Prop := fun r w dc ds => ∃ (P658777 : List Nat) (F658778 : Nat → va_E) (q658774 : Nat) (n658775 : Nat) (f658776 : Nat → Int32), r = none ∧ w = va_pl P658777 F658778 ∧ rSub P658648 P658777 ∧ rFr [q658650] P658648 F658649 F658778 ∧ F658778 q658650 = .inr (1, [.ref q658774, .int 0, .int p658653, .int p658654]) ∧ F658778 q658774 = .inl (I .byte, n658775, .inl f658776) ∧ q658774 ∈ P658777 ∧ (q658774 = q658651 ∨ q658774 ∉ P658648) ∧ dc ≤ 1 ∧ ds ≤ 2 * (n658775 - n658656) ∧ gF f658776 (-128) 127 ∧ p658652.toInt ≤ (n658775 : Int) ∧ (n658656 : Int) ≤ (n658775 : Int) ∧ ((n658775 : Int) = (n658656 : Int) ∨ (n658656 : Int) < p658652.toInt) ∧ ((n658775 : Int) ≤ 2 * (n658656 : Int) + 2 ∨ (n658775 : Int) ≤ p658652.toInt) ∧ tr_RAbstractStringBuilder_ensureCapacityInternal2 p658652 f658655 n658656 n658775 f658776
set_option maxRecDepth 100000 in
set_option maxHeartbeats 4000000 in
theorem cp_658659_AbstractStringBuilder_ensureCapacityInternal (l : Launch) (hl0 : l.stackTraces = false) (D : va_G) (I : FieldType → ClassId) (P658648 : List Nat) (F658649 : Nat → va_E) (q658650 : Nat) (q658651 : Nat) (p658652 : Int32) (p658653 : Int32) (p658654 : Int32) (f658655 : Nat → Int32) (n658656 : Nat) (hmq658650 : q658650 ∈ P658648) (hmq658651 : q658651 ∈ P658648) (heq658650 : F658649 q658650 = .inr (1, [.ref q658651, .int 0, .int p658653, .int p658654])) (heq658651 : F658649 q658651 = .inl (I .byte, n658656, .inl f658655)) (bp658652 : gB p658652 0 8388608) (bp658653 : gB p658653 0 1) (bp658654 : gB p658654 0 16777216) (bf658655 : gF f658655 (-128) 127) (x658657 : (n658656 : Int) ≤ 8388608) (x658658 : ((n658656 : Int) ≤ 16777216)) : CtA (gV D I) l yJ5_ensureCapacityInternal_d00df cJ5_ensureCapacityInternal_d00df 3 none 3 62 1 (2 * n658656 + 2 + p658652.toInt.toNat) [.ref q658650, .int p658652] (va_pl P658648 F658649) (pp_658659_AbstractStringBuilder_ensureCapacityInternal D I P658648 F658649 q658650 q658651 p658652 p658653 p658654 f658655 n658656) gNA := by
  refine CtA_ofF hl0 (by decide +kernel) (Nat.le_of_ble_eq_true rfl) ?_
  refine G_aload_n 0 dr_cJ5_ensureCapacityInternal_d00df_0 rfl ?_
  refine Gp_get 0 hmq658650 heq658650 dr_cJ5_ensureCapacityInternal_d00df_1 (gk_J4 D I) (Nat.le_of_ble_eq_true rfl) wr_7_60 rfl ?_
  refine Gp_alen (Int32.ofNat n658656) 1 hmq658651 heq658651 dr_cJ5_ensureCapacityInternal_d00df_4 rfl rfl (G_nam fun z658660 hz658660 => ?_)
  have ez658660 : z658660.toInt = (n658656 : Nat) := gI_ofM hz658660 (by omega)
  have bz658660 : gB z658660 0 16777216 := ⟨by omega, by omega⟩
  refine G_aload_n 0 dr_cJ5_ensureCapacityInternal_d00df_5 rfl ?_
  refine Gp_get 1 hmq658650 heq658650 dr_cJ5_ensureCapacityInternal_d00df_6 (gk_J4 D I) (Nat.le_of_ble_eq_true rfl) wr_7_61 rfl ?_
  refine G_ishr dr_cJ5_ensureCapacityInternal_d00df_9 (G_nam fun z658661 hz658661 => ?_)
  have ez658661 : z658661.toInt = z658660.toInt / 1 := gI_shr (k := 0) hz658661 (by decide)
  have bz658661 : gB z658661 0 16777216 := ⟨by omega, by omega⟩
  refine G_istore_n (L' := [(2, .int z658661), (0, .ref q658650), (1, .int p658652)]) dr_cJ5_ensureCapacityInternal_d00df_10 (Nat.le_of_ble_eq_true rfl) rfl ?_
  refine G_iload_n 2 dr_cJ5_ensureCapacityInternal_d00df_11 rfl ?_
  refine G_iload_n 0 dr_cJ5_ensureCapacityInternal_d00df_12 rfl ?_
  refine G_isub dr_cJ5_ensureCapacityInternal_d00df_13 (G_nam fun z658662 hz658662 => ?_)
  have ez658662 : z658662.toInt = p658652.toInt - z658661.toInt := by rw [gI_sub hz658662 bp658652 bz658661 (by decide) (by decide)]
  have bz658662 : gB z658662 (-16777216) 8388608 := gB_sub (gI_sub hz658662 bp658652 bz658661 (by decide) (by decide)) bp658652 bz658661 (by decide) (by decide)
  refine G_if_le 38 dr_cJ5_ensureCapacityInternal_d00df_14 (by decide +kernel) (fun hc658663 => ?_) (fun hc658663 => ?_)
  · have r658664 : z658662.toInt ≤ 0 := gj_le hc658663 (show Int32.toInt 0 = 0 by decide)
    have bz658662' : gB z658662 (-16777216) 0 := ⟨by omega, by omega⟩
    exact G_vretA dr_cJ5_ensureCapacityInternal_d00df_38 rfl (Nat.le_of_ble_eq_true rfl) (Nat.le_of_ble_eq_true rfl) ⟨P658648, F658649, q658651, n658656, f658655, rfl, rfl, (rSub_rf (P := P658648)), (rFr_v (rFr_rf (W := []) (P := P658648) (F := F658649)) (fun b hn => nm_n)), heq658650, heq658651, hmq658651, (Or.inl rfl), (Nat.le_of_ble_eq_true rfl), (by omega), bf658655, (by have qa0 : Int32.toInt 0 = 0 := (by decide); omega), (by have qa0 : Int32.toInt 0 = 0 := (by decide); omega), (by have qa0 : Int32.toInt 0 = 0 := (by decide); omega), (by have qa0 : Int32.toInt 0 = 0 := (by decide); omega), (fun R c1 c2 => c1 z658660 z658661 z658662 ez658660 ez658661 ez658662 r658664)⟩
  · have r658665 : 0 < z658662.toInt := gj_nle hc658663 (show Int32.toInt 0 = 0 by decide)
    have bz658662' : gB z658662 1 8388608 := ⟨by omega, by omega⟩
    refine G_aload_n 1 dr_cJ5_ensureCapacityInternal_d00df_17 rfl ?_
    refine G_aload_n 1 dr_cJ5_ensureCapacityInternal_d00df_18 rfl ?_
    refine Gp_get 0 hmq658650 heq658650 dr_cJ5_ensureCapacityInternal_d00df_19 (gk_J4 D I) (Nat.le_of_ble_eq_true rfl) wr_7_60 rfl ?_
    refine G_aload_n 1 dr_cJ5_ensureCapacityInternal_d00df_22 rfl ?_
    refine G_iload_n 2 dr_cJ5_ensureCapacityInternal_d00df_23 rfl ?_
    refine Gw_callVB (As := [.int p658652]) (gV_ok D I) (cp_658678_AbstractStringBuilder_newCapacity l hl0 D I P658648 F658649 q658650 q658651 p658652 p658653 p658654 f658655 n658656 hmq658650 hmq658651 heq658650 heq658651 bp658652 bp658653 bp658654 bf658655 (by have qa0 : Int32.toInt 0 = 0 := (by decide); omega) (by have qa0 : Int32.toInt 0 = 0 := (by decide); omega) (by have qa0 : Int32.toInt 0 = 0 := (by decide); omega)) dr_cJ5_ensureCapacityInternal_d00df_24 ⟨wr_8_8, wr_1_19, wr_8_11, by decide, rfl, (Nat.le_of_ble_eq_true rfl), (Nat.le_of_ble_eq_true rfl)⟩ wr_8_10 wr_s_1 hmq658650 heq658650 rfl (show 0 + 0 ≤ 1 by first | omega | decide) (show 0 + 0 ≤ (2 * n658656 + 2 + p658652.toInt.toNat) by first | omega | decide) (Nat.le_of_ble_eq_true rfl) (fun r658697 w658698 dc658694 ds658695 hp658696 => ?_) (fun _ _ _ _ _ z => z.elim)
    obtain ⟨o658699, rfl, rfl, hdc, hds, bo658699, x658700, x658701, x658702, ht658703⟩ := hp658696
    change G _ _ _ _ _ _ _ (.int o658699 :: _) _ _ _
    refine G_widen (cs' := 0) (sl' := 0) (by omega) (by omega) ?_
    refine G_aload_n 1 dr_cJ5_ensureCapacityInternal_d00df_27 rfl ?_
    refine Gp_get 1 hmq658650 heq658650 dr_cJ5_ensureCapacityInternal_d00df_28 (gk_J4 D I) (Nat.le_of_ble_eq_true rfl) wr_7_61 rfl ?_
    refine G_ishl dr_cJ5_ensureCapacityInternal_d00df_31 (G_nam fun z658704 hz658704 => ?_)
    have ez658704 : z658704.toInt = o658699.toInt * 1 := gI_shl (k := 0) hz658704 (by decide) bo658699 (by decide) (by decide)
    have bz658704 : gB z658704 1 33554432 := ⟨by omega, by omega⟩
    refine Gw_callS (As := [.ref q658651, .int z658704]) (gV_ok D I) (cp_658713_Arrays_copyOf l hl0 D I P658648 F658649 q658651 z658704 f658655 n658656 hmq658651 heq658651 (gB_w bz658704 (by decide) (by decide)) bf658655 (by have qa0 : Int32.toInt 0 = 0 := (by decide); omega) (by have qa0 : Int32.toInt 0 = 0 := (by decide); omega)) dr_cJ5_ensureCapacityInternal_d00df_32 ⟨wr_8_21, wr_1_30, wr_8_23, by decide, rfl, (Nat.le_of_ble_eq_true rfl), (Nat.le_of_ble_eq_true rfl)⟩ wr_8_22 (show 0 + 1 ≤ 1 by first | omega | decide) (show 0 + z658704.toInt.toNat ≤ (2 * n658656 + 2 + p658652.toInt.toNat) by first | omega | decide) (Nat.le_of_ble_eq_true rfl) (fun r658748 w658749 dc658745 ds658746 hp658747 => ?_) (fun _ _ _ _ _ z => z.elim)
    obtain ⟨P658753, F658754, q658750, f658751, rfl, rfl, hsb658755, hfr658756, he658757, he658758, hm658759, hq658760, hdc, hds, bf658751, ht658752⟩ := hp658747
    have hm658761 : q658650 ∈ P658753 := hsb658755 q658650 hmq658650
    have hm658762 : q658651 ∈ P658753 := hsb658755 q658651 hmq658651
    have hq658763 : q658750 ∉ P658648 := fun z => hq658760 ((rSub_rf (P := P658648)) q658750 z)
    have hsb658764 : rSub P658648 P658753 := rSub_tr (rSub_rf (P := P658648)) hsb658755
    have he658765 : F658754 q658650 = .inr (1, [.ref q658651, .int 0, .int p658653, .int p658654]) := (hfr658756 q658650 hmq658650 nm_n).trans heq658650
    have hfr658766 : rFr [] P658648 F658649 F658754 := rFr_call (rSub_rf (P := P658648)) (rFr_rf (W := []) (P := P658648) (F := F658649)) hfr658756 (fun b hb hn => ⟨nm_n, nm_n⟩)
    change G _ _ _ _ _ _ _ (.ref q658750 :: _) _ _ _
    refine G_widen (cs' := 1) (sl' := z658704.toInt.toNat) (by omega) (by omega) ?_
    refine Gp_put 0 hm658761 he658765 dr_cJ5_ensureCapacityInternal_d00df_35 (gk_J4 D I) (Nat.le_of_ble_eq_true rfl) wr_7_60 rfl rfl rfl (Nat.le_of_ble_eq_true rfl) (fun F658767 e658768 n658769 => ?_)
    have he658770 : F658767 q658651 = .inl (I .byte, n658656, .inl f658655) := (n658769 q658651 (rn_ao he658757 he658765)).trans he658757
    have he658771 : F658767 q658750 = .inl (I .byte, z658704.toInt.toNat, .inl f658751) := (n658769 q658750 (fun h => hq658763 (h ▸ hmq658650))).trans he658758
    have he658772 : F658767 q658650 = .inr (1, [.ref q658750, .int 0, .int p658653, .int p658654]) := e658768
    have hfr658773 : rFr [q658650] P658648 F658649 F658767 := rFr_put hfr658766 n658769
    exact G_vretA dr_cJ5_ensureCapacityInternal_d00df_38 rfl (Nat.le_of_ble_eq_true rfl) (show z658704.toInt.toNat ≤ (2 * n658656 + 2 + p658652.toInt.toNat) by omega) ⟨P658753, F658767, q658750, z658704.toInt.toNat, f658751, rfl, rfl, hsb658764, hfr658773, he658772, he658771, hm658759, (Or.inr hq658763), (Nat.le_of_ble_eq_true rfl), (by omega), bf658751, (by have qa0 : Int32.toInt 0 = 0 := (by decide); omega), (by have qa0 : Int32.toInt 0 = 0 := (by decide); omega), (by have qa0 : Int32.toInt 0 = 0 := (by decide); omega), (by have qa0 : Int32.toInt 0 = 0 := (by decide); omega), (fun R c1 c2 => c2 z658660 z658661 z658662 o658699 z658704 f658751 ez658660 ez658661 ez658662 r658665 bo658699 ht658703 ez658704 ht658752)⟩
/- tr_RAbstractStringBuilder_append2: a.0...count, a.0.value.#, a.0.value.[] -/
def tr_RAbstractStringBuilder_append2 (a1 : Int32) (a0_count : Int32) (a0_value_v : Nat → Int32) (a0_value_n : Nat) (o1 : Int32) (o2 : Nat) (o3 : Nat → Int32) : Prop := ∀ R : (Int32) → (Nat) → (Nat → Int32) → Prop,
  (∀ (x1 : Int32) (x2 : Nat) (x3 : Nat → Int32) (x4 : Int32) (x5 : Int32) (x6 : Nat → Int32), x1.toInt = a0_count.toInt + 1 → tr_RAbstractStringBuilder_ensureCapacityInternal2 x1 a0_value_v a0_value_n x2 x3 → tr_RStringLatin1_canEncode a1 (1 : Int32) → x4.toInt = a0_count.toInt + 1 → x5 = a1.toInt8.toInt32 → x6 = upd x3 a0_count.toNatClampNeg (vp_nar .byte x5) → R x4 x2 x6) →
  R o1 o2 o3
