theorem dr_cJ5_length_8abf5_0 : decode cJ5_length_8abf5 0 = .ok (.aload_n 0, 1) := by decide +kernel
theorem dr_cJ5_length_8abf5_1 : decode cJ5_length_8abf5 1 = .ok (.getfield 79, 3) := by decide +kernel
theorem wr_7_64 : (Jvm.Cond.fieldLink "java/lang/AbstractStringBuilder" (79 : Nat) "java/lang/AbstractStringBuilder" "count" "I") ∈ gw := gw_7 64 rfl rfl
theorem dr_cJ5_length_8abf5_4 : decode cJ5_length_8abf5 4 = .ok (.ireturn, 1) := by decide +kernel
theorem dr_cJ4_length_8abf5_0 : decode cJ4_length_8abf5 0 = .ok (.aload_n 0, 1) := by decide +kernel
theorem dr_cJ4_length_8abf5_1 : decode cJ4_length_8abf5 1 = .ok (.invokespecial 343, 3) := by decide +kernel
theorem wr_8_90 : (Jvm.Cond.methodLink "java/lang/StringBuilder" (343 : Nat) ({ cls := "java/lang/AbstractStringBuilder", name := "length", desc := "()I" } : Jvm.MethodName)) ∈ gw := gw_8 90 rfl rfl
theorem wr_1_19 : (Jvm.Cond.initialized "java/lang/AbstractStringBuilder") ∈ gw := gw_1 19 rfl rfl
theorem wr_8_91 : (Jvm.Cond.code ({ cls := "java/lang/AbstractStringBuilder", name := "length", desc := "()I" } : Jvm.MethodName) prog_21_method_6_code (1 : Nat) (Option.some Jvm.ClassFile.FieldType.int)) ∈ gw := gw_8 91 rfl rfl
theorem wr_8_85 : (Jvm.Cond.instanceMethod ({ cls := "java/lang/AbstractStringBuilder", name := "length", desc := "()I" } : Jvm.MethodName)) ∈ gw := gw_8 85 rfl rfl
theorem wr_8_86 : (Jvm.Cond.sameMethod "java/lang/AbstractStringBuilder" "java/lang/AbstractStringBuilder" "length" "()I") ∈ gw := gw_8 86 rfl rfl
theorem wr_7_73 : (Jvm.Cond.superclass "java/lang/StringBuilder" "java/lang/AbstractStringBuilder") ∈ gw := gw_7 73 rfl rfl
theorem wr_7_44 : (Jvm.Cond.instantiable "java/lang/StringBuilder" (4 : Nat)) ∈ gw := gw_7 44 rfl rfl
theorem dr_cJ4_length_8abf5_4 : decode cJ4_length_8abf5 4 = .ok (.ireturn, 1) := by decide +kernel
theorem dr_cJ0_checkIndex_df160_0 : decode cJ0_checkIndex_df160 0 = .ok (.iload_n 0, 1) := by decide +kernel
theorem dr_cJ0_checkIndex_df160_1 : decode cJ0_checkIndex_df160 1 = .ok (.iload_n 1, 1) := by decide +kernel
theorem dr_cJ0_checkIndex_df160_2 : decode cJ0_checkIndex_df160 2 = .ok (.getstatic 1053, 3) := by decide +kernel
theorem wr_3_81 : (Jvm.Cond.fieldLink "java/lang/String" (1053 : Nat) "jdk/internal/util/Preconditions" "SIOOBE_FORMATTER" "Ljava/util/function/BiFunction;") ∈ gw := gw_3 81 rfl rfl
theorem dr_cJ0_checkIndex_df160_5 : decode cJ0_checkIndex_df160 5 = .ok (.invokestatic 1059, 3) := by decide +kernel
theorem wr_3_83 : (Jvm.Cond.methodLink "java/lang/String" (1059 : Nat) ({ cls := "jdk/internal/util/Preconditions", name := "checkIndex", desc := "(IILjava/util/function/BiFunction;)I" } : Jvm.MethodName)) ∈ gw := gw_3 83 rfl rfl
theorem dr_cJ0_checkIndex_df160_8 : decode cJ0_checkIndex_df160 8 = .ok (.pop, 1) := by decide +kernel
theorem dr_cJ0_checkIndex_df160_9 : decode cJ0_checkIndex_df160 9 = .ok (.return_, 1) := by decide +kernel
theorem dr_cJ5_charAt_5068e_0 : decode cJ5_charAt_5068e 0 = .ok (.aload_n 0, 1) := by decide +kernel
theorem dr_cJ5_charAt_5068e_1 : decode cJ5_charAt_5068e 1 = .ok (.getfield 22, 3) := by decide +kernel
theorem wr_7_61 : (Jvm.Cond.fieldLink "java/lang/AbstractStringBuilder" (22 : Nat) "java/lang/AbstractStringBuilder" "coder" "B") ∈ gw := gw_7 61 rfl rfl
theorem dr_cJ5_charAt_5068e_4 : decode cJ5_charAt_5068e 4 = .ok (.istore_n 2, 1) := by decide +kernel
theorem dr_cJ5_charAt_5068e_5 : decode cJ5_charAt_5068e 5 = .ok (.aload_n 0, 1) := by decide +kernel
theorem dr_cJ5_charAt_5068e_6 : decode cJ5_charAt_5068e 6 = .ok (.getfield 15, 3) := by decide +kernel
theorem wr_7_60 : (Jvm.Cond.fieldLink "java/lang/AbstractStringBuilder" (15 : Nat) "java/lang/AbstractStringBuilder" "value" "[B") ∈ gw := gw_7 60 rfl rfl
theorem dr_cJ5_charAt_5068e_9 : decode cJ5_charAt_5068e 9 = .ok (.astore_n 3, 1) := by decide +kernel
theorem dr_cJ5_charAt_5068e_10 : decode cJ5_charAt_5068e 10 = .ok (.aload_n 0, 1) := by decide +kernel
theorem dr_cJ5_charAt_5068e_11 : decode cJ5_charAt_5068e 11 = .ok (.getfield 79, 3) := by decide +kernel
theorem dr_cJ5_charAt_5068e_14 : decode cJ5_charAt_5068e 14 = .ok (.aload_n 3, 1) := by decide +kernel
theorem dr_cJ5_charAt_5068e_15 : decode cJ5_charAt_5068e 15 = .ok (.arraylength, 1) := by decide +kernel
theorem dr_cJ5_charAt_5068e_16 : decode cJ5_charAt_5068e 16 = .ok (.iload_n 2, 1) := by decide +kernel
theorem dr_cJ5_charAt_5068e_17 : decode cJ5_charAt_5068e 17 = .ok (.ishr, 1) := by decide +kernel
theorem dr_cJ5_charAt_5068e_18 : decode cJ5_charAt_5068e 18 = .ok (.invokestatic 138, 3) := by decide +kernel
theorem wr_11_216 : (Jvm.Cond.methodLink "java/lang/AbstractStringBuilder" (138 : Nat) ({ cls := "java/lang/Math", name := "min", desc := "(II)I" } : Jvm.MethodName)) ∈ gw := gw_11 216 rfl rfl
theorem dr_cJ5_charAt_5068e_21 : decode cJ5_charAt_5068e 21 = .ok (.istore 4, 2) := by decide +kernel
theorem dr_cJ5_charAt_5068e_23 : decode cJ5_charAt_5068e 23 = .ok (.iload_n 1, 1) := by decide +kernel
theorem dr_cJ5_charAt_5068e_24 : decode cJ5_charAt_5068e 24 = .ok (.iload 4, 2) := by decide +kernel
theorem dr_cJ5_charAt_5068e_26 : decode cJ5_charAt_5068e 26 = .ok (.invokestatic 144, 3) := by decide +kernel
theorem wr_11_217 : (Jvm.Cond.methodLink "java/lang/AbstractStringBuilder" (144 : Nat) ({ cls := "java/lang/String", name := "checkIndex", desc := "(II)V" } : Jvm.MethodName)) ∈ gw := gw_11 217 rfl rfl
theorem wr_1_21 : (Jvm.Cond.initialized "java/lang/String") ∈ gw := gw_1 21 rfl rfl
theorem wr_3_80 : (Jvm.Cond.code ({ cls := "java/lang/String", name := "checkIndex", desc := "(II)V" } : Jvm.MethodName) prog_34_method_155_code (2 : Nat) (Option.none : Option Jvm.ClassFile.FieldType)) ∈ gw := gw_3 80 rfl rfl
theorem wr_3_79 : (Jvm.Cond.static ({ cls := "java/lang/String", name := "checkIndex", desc := "(II)V" } : Jvm.MethodName)) ∈ gw := gw_3 79 rfl rfl
theorem dr_cJ5_charAt_5068e_29 : decode cJ5_charAt_5068e 29 = .ok (.iload_n 2, 1) := by decide +kernel
theorem dr_cJ5_charAt_5068e_30 : decode cJ5_charAt_5068e 30 = .ok (.ifCond .ne 12, 3) := by decide +kernel
theorem dr_cJ5_charAt_5068e_33 : decode cJ5_charAt_5068e 33 = .ok (.aload_n 3, 1) := by decide +kernel
theorem dr_cJ5_charAt_5068e_34 : decode cJ5_charAt_5068e 34 = .ok (.iload_n 1, 1) := by decide +kernel
theorem dr_cJ5_charAt_5068e_35 : decode cJ5_charAt_5068e 35 = .ok (.baload, 1) := by decide +kernel
theorem dr_cJ5_charAt_5068e_36 : decode cJ5_charAt_5068e 36 = .ok (.sipush 255, 3) := by decide +kernel
theorem dr_cJ5_charAt_5068e_39 : decode cJ5_charAt_5068e 39 = .ok (.iand, 1) := by decide +kernel
theorem dr_cJ5_charAt_5068e_40 : decode cJ5_charAt_5068e 40 = .ok (.i2c, 1) := by decide +kernel
theorem dr_cJ5_charAt_5068e_41 : decode cJ5_charAt_5068e 41 = .ok (.ireturn, 1) := by decide +kernel
theorem dr_cJ4_charAt_5068e_0 : decode cJ4_charAt_5068e 0 = .ok (.aload_n 0, 1) := by decide +kernel
theorem dr_cJ4_charAt_5068e_1 : decode cJ4_charAt_5068e 1 = .ok (.iload_n 1, 1) := by decide +kernel
theorem dr_cJ4_charAt_5068e_2 : decode cJ4_charAt_5068e 2 = .ok (.invokespecial 329, 3) := by decide +kernel
theorem wr_11_213 : (Jvm.Cond.methodLink "java/lang/StringBuilder" (329 : Nat) ({ cls := "java/lang/AbstractStringBuilder", name := "charAt", desc := "(I)C" } : Jvm.MethodName)) ∈ gw := gw_11 213 rfl rfl
theorem wr_11_215 : (Jvm.Cond.code ({ cls := "java/lang/AbstractStringBuilder", name := "charAt", desc := "(I)C" } : Jvm.MethodName) prog_21_method_14_code (5 : Nat) (Option.some Jvm.ClassFile.FieldType.char)) ∈ gw := gw_11 215 rfl rfl
theorem wr_11_214 : (Jvm.Cond.instanceMethod ({ cls := "java/lang/AbstractStringBuilder", name := "charAt", desc := "(I)C" } : Jvm.MethodName)) ∈ gw := gw_11 214 rfl rfl
theorem wr_11_235 : (Jvm.Cond.sameMethod "java/lang/AbstractStringBuilder" "java/lang/AbstractStringBuilder" "charAt" "(I)C") ∈ gw := gw_11 235 rfl rfl
theorem dr_cJ4_charAt_5068e_5 : decode cJ4_charAt_5068e 5 = .ok (.ireturn, 1) := by decide +kernel
theorem dr_cJ5_ensureCapacityInternal_d00df_0 : decode cJ5_ensureCapacityInternal_d00df 0 = .ok (.aload_n 0, 1) := by decide +kernel
theorem dr_cJ5_ensureCapacityInternal_d00df_1 : decode cJ5_ensureCapacityInternal_d00df 1 = .ok (.getfield 15, 3) := by decide +kernel
theorem dr_cJ5_ensureCapacityInternal_d00df_4 : decode cJ5_ensureCapacityInternal_d00df 4 = .ok (.arraylength, 1) := by decide +kernel
theorem dr_cJ5_ensureCapacityInternal_d00df_5 : decode cJ5_ensureCapacityInternal_d00df 5 = .ok (.aload_n 0, 1) := by decide +kernel
theorem dr_cJ5_ensureCapacityInternal_d00df_6 : decode cJ5_ensureCapacityInternal_d00df 6 = .ok (.getfield 22, 3) := by decide +kernel
theorem dr_cJ5_ensureCapacityInternal_d00df_9 : decode cJ5_ensureCapacityInternal_d00df 9 = .ok (.ishr, 1) := by decide +kernel
theorem dr_cJ5_ensureCapacityInternal_d00df_10 : decode cJ5_ensureCapacityInternal_d00df 10 = .ok (.istore_n 2, 1) := by decide +kernel
theorem dr_cJ5_ensureCapacityInternal_d00df_11 : decode cJ5_ensureCapacityInternal_d00df 11 = .ok (.iload_n 1, 1) := by decide +kernel
theorem dr_cJ5_ensureCapacityInternal_d00df_12 : decode cJ5_ensureCapacityInternal_d00df 12 = .ok (.iload_n 2, 1) := by decide +kernel
theorem dr_cJ5_ensureCapacityInternal_d00df_13 : decode cJ5_ensureCapacityInternal_d00df 13 = .ok (.isub, 1) := by decide +kernel
theorem dr_cJ5_ensureCapacityInternal_d00df_14 : decode cJ5_ensureCapacityInternal_d00df 14 = .ok (.ifCond .le 24, 3) := by decide +kernel
theorem dr_cJ5_ensureCapacityInternal_d00df_38 : decode cJ5_ensureCapacityInternal_d00df 38 = .ok (.return_, 1) := by decide +kernel
theorem dr_cJ5_isLatin1_aae02_0 : decode cJ5_isLatin1_aae02 0 = .ok (.getstatic 18, 3) := by decide +kernel
theorem wr_7_52 : (Jvm.Cond.fieldLink "java/lang/AbstractStringBuilder" (18 : Nat) "java/lang/String" "COMPACT_STRINGS" "Z") ∈ gw := gw_7 52 rfl rfl
theorem dr_cJ5_isLatin1_aae02_3 : decode cJ5_isLatin1_aae02 3 = .ok (.ifCond .eq 14, 3) := by decide +kernel
theorem dr_cJ5_isLatin1_aae02_6 : decode cJ5_isLatin1_aae02 6 = .ok (.aload_n 0, 1) := by decide +kernel
theorem dr_cJ5_isLatin1_aae02_7 : decode cJ5_isLatin1_aae02 7 = .ok (.getfield 22, 3) := by decide +kernel
theorem dr_cJ5_isLatin1_aae02_10 : decode cJ5_isLatin1_aae02 10 = .ok (.ifCond .ne 7, 3) := by decide +kernel
theorem dr_cJ5_isLatin1_aae02_13 : decode cJ5_isLatin1_aae02 13 = .ok (.iconst 1, 1) := by decide +kernel
theorem dr_cJ5_isLatin1_aae02_14 : decode cJ5_isLatin1_aae02 14 = .ok (.goto 4, 3) := by decide +kernel
theorem dr_cJ5_isLatin1_aae02_18 : decode cJ5_isLatin1_aae02 18 = .ok (.ireturn, 1) := by decide +kernel
theorem dr_cJ1_canEncode_fc78d_0 : decode cJ1_canEncode_fc78d 0 = .ok (.iload_n 0, 1) := by decide +kernel
theorem dr_cJ1_canEncode_fc78d_1 : decode cJ1_canEncode_fc78d 1 = .ok (.sipush 255, 3) := by decide +kernel
theorem dr_cJ1_canEncode_fc78d_4 : decode cJ1_canEncode_fc78d 4 = .ok (.if_icmp .gt 7, 3) := by decide +kernel
theorem dr_cJ1_canEncode_fc78d_11 : decode cJ1_canEncode_fc78d 11 = .ok (.iconst 0, 1) := by decide +kernel
theorem dr_cJ1_canEncode_fc78d_12 : decode cJ1_canEncode_fc78d 12 = .ok (.ireturn, 1) := by decide +kernel
theorem dr_cJ1_canEncode_fc78d_7 : decode cJ1_canEncode_fc78d 7 = .ok (.iconst 1, 1) := by decide +kernel
theorem dr_cJ1_canEncode_fc78d_8 : decode cJ1_canEncode_fc78d 8 = .ok (.goto 4, 3) := by decide +kernel
theorem dr_cJ5_append_3fe6f_0 : decode cJ5_append_3fe6f 0 = .ok (.aload_n 0, 1) := by decide +kernel
theorem dr_cJ5_append_3fe6f_1 : decode cJ5_append_3fe6f 1 = .ok (.aload_n 0, 1) := by decide +kernel
theorem dr_cJ5_append_3fe6f_2 : decode cJ5_append_3fe6f 2 = .ok (.getfield 79, 3) := by decide +kernel
theorem dr_cJ5_append_3fe6f_5 : decode cJ5_append_3fe6f 5 = .ok (.iconst 1, 1) := by decide +kernel
theorem dr_cJ5_append_3fe6f_6 : decode cJ5_append_3fe6f 6 = .ok (.iadd, 1) := by decide +kernel
theorem dr_cJ5_append_3fe6f_7 : decode cJ5_append_3fe6f 7 = .ok (.invokevirtual 100, 3) := by decide +kernel
theorem wr_8_4 : (Jvm.Cond.methodLink "java/lang/AbstractStringBuilder" (100 : Nat) ({ cls := "java/lang/AbstractStringBuilder", name := "ensureCapacityInternal", desc := "(I)V" } : Jvm.MethodName)) ∈ gw := gw_8 4 rfl rfl
theorem wr_8_7 : (Jvm.Cond.code ({ cls := "java/lang/AbstractStringBuilder", name := "ensureCapacityInternal", desc := "(I)V" } : Jvm.MethodName) prog_21_method_9_code (3 : Nat) (Option.none : Option Jvm.ClassFile.FieldType)) ∈ gw := gw_8 7 rfl rfl
theorem wr_8_6 : (Jvm.Cond.instanceMethod ({ cls := "java/lang/AbstractStringBuilder", name := "ensureCapacityInternal", desc := "(I)V" } : Jvm.MethodName)) ∈ gw := gw_8 6 rfl rfl
theorem wr_s_0 : Cond.selects "java/lang/StringBuilder" ⟨"java/lang/AbstractStringBuilder", "ensureCapacityInternal", "(I)V"⟩ ⟨"java/lang/AbstractStringBuilder", "ensureCapacityInternal", "(I)V"⟩ ∈ gw := gw_s _ 0 rfl rfl rfl
theorem dr_cJ5_append_3fe6f_10 : decode cJ5_append_3fe6f 10 = .ok (.aload_n 0, 1) := by decide +kernel
theorem dr_cJ5_append_3fe6f_11 : decode cJ5_append_3fe6f 11 = .ok (.invokevirtual 83, 3) := by decide +kernel
theorem wr_8_33 : (Jvm.Cond.methodLink "java/lang/AbstractStringBuilder" (83 : Nat) ({ cls := "java/lang/AbstractStringBuilder", name := "isLatin1", desc := "()Z" } : Jvm.MethodName)) ∈ gw := gw_8 33 rfl rfl
theorem wr_8_37 : (Jvm.Cond.code ({ cls := "java/lang/AbstractStringBuilder", name := "isLatin1", desc := "()Z" } : Jvm.MethodName) prog_21_method_68_code (1 : Nat) (Option.some Jvm.ClassFile.FieldType.boolean)) ∈ gw := gw_8 37 rfl rfl
theorem wr_8_34 : (Jvm.Cond.instanceMethod ({ cls := "java/lang/AbstractStringBuilder", name := "isLatin1", desc := "()Z" } : Jvm.MethodName)) ∈ gw := gw_8 34 rfl rfl
theorem wr_8_36 : (Jvm.Cond.selects "java/lang/StringBuilder" ({ cls := "java/lang/AbstractStringBuilder", name := "isLatin1", desc := "()Z" } : Jvm.MethodName) ({ cls := "java/lang/AbstractStringBuilder", name := "isLatin1", desc := "()Z" } : Jvm.MethodName)) ∈ gw := gw_8 36 rfl rfl
theorem dr_cJ5_append_3fe6f_14 : decode cJ5_append_3fe6f 14 = .ok (.ifCond .eq 31, 3) := by decide +kernel
theorem dr_cJ5_append_3fe6f_17 : decode cJ5_append_3fe6f 17 = .ok (.iload_n 1, 1) := by decide +kernel
theorem dr_cJ5_append_3fe6f_18 : decode cJ5_append_3fe6f 18 = .ok (.invokestatic 191, 3) := by decide +kernel
theorem wr_8_38 : (Jvm.Cond.methodLink "java/lang/AbstractStringBuilder" (191 : Nat) ({ cls := "java/lang/StringLatin1", name := "canEncode", desc := "(C)Z" } : Jvm.MethodName)) ∈ gw := gw_8 38 rfl rfl
theorem wr_1_28 : (Jvm.Cond.initialized "java/lang/StringLatin1") ∈ gw := gw_1 28 rfl rfl
theorem wr_8_40 : (Jvm.Cond.code ({ cls := "java/lang/StringLatin1", name := "canEncode", desc := "(C)Z" } : Jvm.MethodName) prog_37_method_3_code (1 : Nat) (Option.some Jvm.ClassFile.FieldType.boolean)) ∈ gw := gw_8 40 rfl rfl
theorem wr_8_39 : (Jvm.Cond.static ({ cls := "java/lang/StringLatin1", name := "canEncode", desc := "(C)Z" } : Jvm.MethodName)) ∈ gw := gw_8 39 rfl rfl
theorem dr_cJ5_append_3fe6f_21 : decode cJ5_append_3fe6f 21 = .ok (.ifCond .eq 24, 3) := by decide +kernel
theorem dr_cJ5_append_3fe6f_24 : decode cJ5_append_3fe6f 24 = .ok (.aload_n 0, 1) := by decide +kernel
theorem dr_cJ5_append_3fe6f_25 : decode cJ5_append_3fe6f 25 = .ok (.getfield 15, 3) := by decide +kernel
theorem dr_cJ5_append_3fe6f_28 : decode cJ5_append_3fe6f 28 = .ok (.aload_n 0, 1) := by decide +kernel
theorem dr_cJ5_append_3fe6f_29 : decode cJ5_append_3fe6f 29 = .ok (.dup, 1) := by decide +kernel
theorem dr_cJ5_append_3fe6f_30 : decode cJ5_append_3fe6f 30 = .ok (.getfield 79, 3) := by decide +kernel
theorem dr_cJ5_append_3fe6f_33 : decode cJ5_append_3fe6f 33 = .ok (.dup_x1, 1) := by decide +kernel
theorem dr_cJ5_append_3fe6f_34 : decode cJ5_append_3fe6f 34 = .ok (.iconst 1, 1) := by decide +kernel
theorem dr_cJ5_append_3fe6f_35 : decode cJ5_append_3fe6f 35 = .ok (.iadd, 1) := by decide +kernel
theorem dr_cJ5_append_3fe6f_36 : decode cJ5_append_3fe6f 36 = .ok (.putfield 79, 3) := by decide +kernel
theorem dr_cJ5_append_3fe6f_39 : decode cJ5_append_3fe6f 39 = .ok (.iload_n 1, 1) := by decide +kernel
theorem dr_cJ5_append_3fe6f_40 : decode cJ5_append_3fe6f 40 = .ok (.i2b, 1) := by decide +kernel
theorem dr_cJ5_append_3fe6f_41 : decode cJ5_append_3fe6f 41 = .ok (.bastore, 1) := by decide +kernel
theorem dr_cJ5_append_3fe6f_42 : decode cJ5_append_3fe6f 42 = .ok (.goto 33, 3) := by decide +kernel
theorem dr_cJ5_append_3fe6f_75 : decode cJ5_append_3fe6f 75 = .ok (.aload_n 0, 1) := by decide +kernel
theorem dr_cJ5_append_3fe6f_76 : decode cJ5_append_3fe6f 76 = .ok (.areturn, 1) := by decide +kernel
theorem dr_cJ4_append_cf468_0 : decode cJ4_append_cf468 0 = .ok (.aload_n 0, 1) := by decide +kernel
theorem dr_cJ4_append_cf468_1 : decode cJ4_append_cf468 1 = .ok (.iload_n 1, 1) := by decide +kernel
theorem dr_cJ4_append_cf468_2 : decode cJ4_append_cf468 2 = .ok (.invokespecial 50, 3) := by decide +kernel
theorem wr_8_1 : (Jvm.Cond.methodLink "java/lang/StringBuilder" (50 : Nat) ({ cls := "java/lang/AbstractStringBuilder", name := "append", desc := "(C)Ljava/lang/AbstractStringBuilder;" } : Jvm.MethodName)) ∈ gw := gw_8 1 rfl rfl
theorem wr_8_3 : (Jvm.Cond.code ({ cls := "java/lang/AbstractStringBuilder", name := "append", desc := "(C)Ljava/lang/AbstractStringBuilder;" } : Jvm.MethodName) prog_21_method_31_code (2 : Nat) (Option.some (Jvm.ClassFile.FieldType.object "java/lang/AbstractStringBuilder"))) ∈ gw := gw_8 3 rfl rfl
theorem wr_8_2 : (Jvm.Cond.instanceMethod ({ cls := "java/lang/AbstractStringBuilder", name := "append", desc := "(C)Ljava/lang/AbstractStringBuilder;" } : Jvm.MethodName)) ∈ gw := gw_8 2 rfl rfl
theorem wr_11_224 : (Jvm.Cond.sameMethod "java/lang/AbstractStringBuilder" "java/lang/AbstractStringBuilder" "append" "(C)Ljava/lang/AbstractStringBuilder;") ∈ gw := gw_11 224 rfl rfl
theorem dr_cJ4_append_cf468_5 : decode cJ4_append_cf468 5 = .ok (.pop, 1) := by decide +kernel
theorem dr_cJ4_append_cf468_6 : decode cJ4_append_cf468 6 = .ok (.aload_n 0, 1) := by decide +kernel
theorem dr_cJ4_append_cf468_7 : decode cJ4_append_cf468 7 = .ok (.areturn, 1) := by decide +kernel
theorem dr_cJ5_newCapacity_0f7a4_0 : decode cJ5_newCapacity_0f7a4 0 = .ok (.aload_n 0, 1) := by decide +kernel
theorem dr_cJ5_newCapacity_0f7a4_1 : decode cJ5_newCapacity_0f7a4 1 = .ok (.getfield 15, 3) := by decide +kernel
theorem dr_cJ5_newCapacity_0f7a4_4 : decode cJ5_newCapacity_0f7a4 4 = .ok (.arraylength, 1) := by decide +kernel
theorem dr_cJ5_newCapacity_0f7a4_5 : decode cJ5_newCapacity_0f7a4 5 = .ok (.istore_n 2, 1) := by decide +kernel
theorem dr_cJ5_newCapacity_0f7a4_6 : decode cJ5_newCapacity_0f7a4 6 = .ok (.iload_n 1, 1) := by decide +kernel
theorem dr_cJ5_newCapacity_0f7a4_7 : decode cJ5_newCapacity_0f7a4 7 = .ok (.aload_n 0, 1) := by decide +kernel
theorem dr_cJ5_newCapacity_0f7a4_8 : decode cJ5_newCapacity_0f7a4 8 = .ok (.getfield 22, 3) := by decide +kernel
theorem dr_cJ5_newCapacity_0f7a4_11 : decode cJ5_newCapacity_0f7a4 11 = .ok (.ishl, 1) := by decide +kernel
theorem dr_cJ5_newCapacity_0f7a4_12 : decode cJ5_newCapacity_0f7a4 12 = .ok (.istore_n 3, 1) := by decide +kernel
theorem dr_cJ5_newCapacity_0f7a4_13 : decode cJ5_newCapacity_0f7a4 13 = .ok (.iload_n 3, 1) := by decide +kernel
theorem dr_cJ5_newCapacity_0f7a4_14 : decode cJ5_newCapacity_0f7a4 14 = .ok (.iload_n 2, 1) := by decide +kernel
theorem dr_cJ5_newCapacity_0f7a4_15 : decode cJ5_newCapacity_0f7a4 15 = .ok (.isub, 1) := by decide +kernel
theorem dr_cJ5_newCapacity_0f7a4_16 : decode cJ5_newCapacity_0f7a4 16 = .ok (.istore 4, 2) := by decide +kernel
theorem dr_cJ5_newCapacity_0f7a4_18 : decode cJ5_newCapacity_0f7a4 18 = .ok (.iload_n 2, 1) := by decide +kernel
theorem dr_cJ5_newCapacity_0f7a4_19 : decode cJ5_newCapacity_0f7a4 19 = .ok (.iload 4, 2) := by decide +kernel
theorem dr_cJ5_newCapacity_0f7a4_21 : decode cJ5_newCapacity_0f7a4 21 = .ok (.iload_n 2, 1) := by decide +kernel
theorem dr_cJ5_newCapacity_0f7a4_22 : decode cJ5_newCapacity_0f7a4 22 = .ok (.iconst 2, 1) := by decide +kernel
theorem dr_cJ5_newCapacity_0f7a4_23 : decode cJ5_newCapacity_0f7a4 23 = .ok (.aload_n 0, 1) := by decide +kernel
theorem dr_cJ5_newCapacity_0f7a4_24 : decode cJ5_newCapacity_0f7a4 24 = .ok (.getfield 22, 3) := by decide +kernel
theorem dr_cJ5_newCapacity_0f7a4_27 : decode cJ5_newCapacity_0f7a4 27 = .ok (.ishl, 1) := by decide +kernel
theorem dr_cJ5_newCapacity_0f7a4_28 : decode cJ5_newCapacity_0f7a4 28 = .ok (.iadd, 1) := by decide +kernel
theorem dr_cJ5_newCapacity_0f7a4_29 : decode cJ5_newCapacity_0f7a4 29 = .ok (.invokestatic 114, 3) := by decide +kernel
theorem wr_8_12 : (Jvm.Cond.methodLink "java/lang/AbstractStringBuilder" (114 : Nat) ({ cls := "jdk/internal/util/ArraysSupport", name := "newLength", desc := "(III)I" } : Jvm.MethodName)) ∈ gw := gw_8 12 rfl rfl
theorem dr_cJ5_newCapacity_0f7a4_32 : decode cJ5_newCapacity_0f7a4 32 = .ok (.istore 5, 2) := by decide +kernel
theorem dr_cJ5_newCapacity_0f7a4_34 : decode cJ5_newCapacity_0f7a4 34 = .ok (.iload 5, 2) := by decide +kernel
theorem dr_cJ5_newCapacity_0f7a4_36 : decode cJ5_newCapacity_0f7a4 36 = .ok (.ldc 39, 2) := by decide +kernel
theorem wr_8_20 : (Jvm.Cond.constant "java/lang/AbstractStringBuilder" (39 : Nat) (2147483647 : Int32)) ∈ gw := gw_8 20 rfl rfl
theorem dr_cJ5_newCapacity_0f7a4_38 : decode cJ5_newCapacity_0f7a4 38 = .ok (.if_icmp .ne 13, 3) := by decide +kernel
theorem dr_cJ5_newCapacity_0f7a4_51 : decode cJ5_newCapacity_0f7a4 51 = .ok (.iload 5, 2) := by decide +kernel
theorem dr_cJ5_newCapacity_0f7a4_53 : decode cJ5_newCapacity_0f7a4 53 = .ok (.aload_n 0, 1) := by decide +kernel
theorem dr_cJ5_newCapacity_0f7a4_54 : decode cJ5_newCapacity_0f7a4 54 = .ok (.getfield 22, 3) := by decide +kernel
theorem dr_cJ5_newCapacity_0f7a4_57 : decode cJ5_newCapacity_0f7a4 57 = .ok (.ishr, 1) := by decide +kernel
theorem dr_cJ5_newCapacity_0f7a4_58 : decode cJ5_newCapacity_0f7a4 58 = .ok (.ireturn, 1) := by decide +kernel
theorem dr_cJ7_copyOf_9075b_0 : decode cJ7_copyOf_9075b 0 = .ok (.iload_n 1, 1) := by decide +kernel
theorem dr_cJ7_copyOf_9075b_1 : decode cJ7_copyOf_9075b 1 = .ok (.aload_n 0, 1) := by decide +kernel
theorem dr_cJ7_copyOf_9075b_2 : decode cJ7_copyOf_9075b 2 = .ok (.arraylength, 1) := by decide +kernel
theorem dr_cJ7_copyOf_9075b_3 : decode cJ7_copyOf_9075b 3 = .ok (.if_icmp .ne 11, 3) := by decide +kernel
theorem dr_cJ7_copyOf_9075b_14 : decode cJ7_copyOf_9075b 14 = .ok (.iload_n 1, 1) := by decide +kernel
theorem dr_cJ7_copyOf_9075b_15 : decode cJ7_copyOf_9075b 15 = .ok (.newarray .byte, 2) := by decide +kernel
theorem wr_1_66 : (Jvm.Cond.arrayClass Jvm.ClassFile.FieldType.byte) ∈ gw := gw_1 66 rfl rfl
theorem dr_cJ7_copyOf_9075b_17 : decode cJ7_copyOf_9075b 17 = .ok (.astore_n 2, 1) := by decide +kernel
theorem dr_cJ7_copyOf_9075b_18 : decode cJ7_copyOf_9075b 18 = .ok (.aload_n 0, 1) := by decide +kernel
theorem dr_cJ7_copyOf_9075b_19 : decode cJ7_copyOf_9075b 19 = .ok (.iconst 0, 1) := by decide +kernel
theorem dr_cJ7_copyOf_9075b_20 : decode cJ7_copyOf_9075b 20 = .ok (.aload_n 2, 1) := by decide +kernel
theorem dr_cJ7_copyOf_9075b_21 : decode cJ7_copyOf_9075b 21 = .ok (.iconst 0, 1) := by decide +kernel
theorem dr_cJ7_copyOf_9075b_22 : decode cJ7_copyOf_9075b 22 = .ok (.aload_n 0, 1) := by decide +kernel
theorem dr_cJ7_copyOf_9075b_23 : decode cJ7_copyOf_9075b 23 = .ok (.arraylength, 1) := by decide +kernel
theorem dr_cJ7_copyOf_9075b_24 : decode cJ7_copyOf_9075b 24 = .ok (.iload_n 1, 1) := by decide +kernel
theorem dr_cJ7_copyOf_9075b_25 : decode cJ7_copyOf_9075b 25 = .ok (.invokestatic 304, 3) := by decide +kernel
theorem dr_cJ7_copyOf_9075b_28 : decode cJ7_copyOf_9075b 28 = .ok (.invokestatic 150, 3) := by decide +kernel
theorem dr_cJ7_copyOf_9075b_31 : decode cJ7_copyOf_9075b 31 = .ok (.aload_n 2, 1) := by decide +kernel
theorem dr_cJ7_copyOf_9075b_32 : decode cJ7_copyOf_9075b 32 = .ok (.areturn, 1) := by decide +kernel
theorem dr_cJ5_ensureCapacityInternal_d00df_17 : decode cJ5_ensureCapacityInternal_d00df 17 = .ok (.aload_n 0, 1) := by decide +kernel
theorem dr_cJ5_ensureCapacityInternal_d00df_18 : decode cJ5_ensureCapacityInternal_d00df 18 = .ok (.aload_n 0, 1) := by decide +kernel
theorem dr_cJ5_ensureCapacityInternal_d00df_19 : decode cJ5_ensureCapacityInternal_d00df 19 = .ok (.getfield 15, 3) := by decide +kernel
theorem dr_cJ5_ensureCapacityInternal_d00df_22 : decode cJ5_ensureCapacityInternal_d00df 22 = .ok (.aload_n 0, 1) := by decide +kernel
theorem dr_cJ5_ensureCapacityInternal_d00df_23 : decode cJ5_ensureCapacityInternal_d00df 23 = .ok (.iload_n 1, 1) := by decide +kernel
theorem dr_cJ5_ensureCapacityInternal_d00df_24 : decode cJ5_ensureCapacityInternal_d00df 24 = .ok (.invokevirtual 104, 3) := by decide +kernel
theorem wr_8_8 : (Jvm.Cond.methodLink "java/lang/AbstractStringBuilder" (104 : Nat) ({ cls := "java/lang/AbstractStringBuilder", name := "newCapacity", desc := "(I)I" } : Jvm.MethodName)) ∈ gw := gw_8 8 rfl rfl
theorem wr_8_11 : (Jvm.Cond.code ({ cls := "java/lang/AbstractStringBuilder", name := "newCapacity", desc := "(I)I" } : Jvm.MethodName) prog_21_method_10_code (6 : Nat) (Option.some Jvm.ClassFile.FieldType.int)) ∈ gw := gw_8 11 rfl rfl
theorem wr_8_10 : (Jvm.Cond.instanceMethod ({ cls := "java/lang/AbstractStringBuilder", name := "newCapacity", desc := "(I)I" } : Jvm.MethodName)) ∈ gw := gw_8 10 rfl rfl
theorem wr_s_1 : Cond.selects "java/lang/StringBuilder" ⟨"java/lang/AbstractStringBuilder", "newCapacity", "(I)I"⟩ ⟨"java/lang/AbstractStringBuilder", "newCapacity", "(I)I"⟩ ∈ gw := gw_s _ 1 rfl rfl rfl
theorem dr_cJ5_ensureCapacityInternal_d00df_27 : decode cJ5_ensureCapacityInternal_d00df 27 = .ok (.aload_n 0, 1) := by decide +kernel
theorem dr_cJ5_ensureCapacityInternal_d00df_28 : decode cJ5_ensureCapacityInternal_d00df 28 = .ok (.getfield 22, 3) := by decide +kernel
theorem dr_cJ5_ensureCapacityInternal_d00df_31 : decode cJ5_ensureCapacityInternal_d00df 31 = .ok (.ishl, 1) := by decide +kernel
theorem dr_cJ5_ensureCapacityInternal_d00df_32 : decode cJ5_ensureCapacityInternal_d00df 32 = .ok (.invokestatic 108, 3) := by decide +kernel
theorem wr_8_21 : (Jvm.Cond.methodLink "java/lang/AbstractStringBuilder" (108 : Nat) ({ cls := "java/util/Arrays", name := "copyOf", desc := "([BI)[B" } : Jvm.MethodName)) ∈ gw := gw_8 21 rfl rfl
theorem wr_8_23 : (Jvm.Cond.code ({ cls := "java/util/Arrays", name := "copyOf", desc := "([BI)[B" } : Jvm.MethodName) prog_44_method_121_code (3 : Nat) (Option.some (Jvm.ClassFile.FieldType.array Jvm.ClassFile.FieldType.byte))) ∈ gw := gw_8 23 rfl rfl
theorem wr_8_22 : (Jvm.Cond.static ({ cls := "java/util/Arrays", name := "copyOf", desc := "([BI)[B" } : Jvm.MethodName)) ∈ gw := gw_8 22 rfl rfl
theorem dr_cJ5_ensureCapacityInternal_d00df_35 : decode cJ5_ensureCapacityInternal_d00df 35 = .ok (.putfield 15, 3) := by decide +kernel
abbrev ky_657652_AbstractStringBuilder_length : gKey := (cJ5_length_8abf5, 1, "java/lang/AbstractStringBuilder", (some FieldType.int), [], "length", fun _ _ => True)
def pp_657652_AbstractStringBuilder_length (D : va_G) (I : FieldType → ClassId) (P657643 : List Nat) (F657644 : Nat → va_E) (q657645 : Nat) (q657646 : Nat) (p657647 : Int32) (p657648 : Int32) (f657649 : Nat → Int32) (n657650 : Nat) : Option Value → va_W → Nat → Nat → Prop := fun r w dc ds => r = some (.int p657648) ∧ w = va_pl P657643 F657644 ∧ dc ≤ 0 ∧ ds ≤ 0
set_option maxRecDepth 100000 in
set_option maxHeartbeats 4000000 in
theorem cp_657652_AbstractStringBuilder_length (l : Launch) (hl0 : l.stackTraces = false) (D : va_G) (I : FieldType → ClassId) (P657643 : List Nat) (F657644 : Nat → va_E) (q657645 : Nat) (q657646 : Nat) (p657647 : Int32) (p657648 : Int32) (f657649 : Nat → Int32) (n657650 : Nat) (hmq657645 : q657645 ∈ P657643) (hmq657646 : q657646 ∈ P657643) (heq657645 : F657644 q657645 = .inr (1, [.ref q657646, .int 0, .int p657647, .int p657648])) (heq657646 : F657644 q657646 = .inl (I .byte, n657650, .inl f657649)) (bp657647 : gB p657647 0 1) (bp657648 : gB p657648 0 16777216) (bf657649 : gF f657649 (-128) 127) (x657651 : ((n657650 : Int) ≤ 16777216)) : CtA (gV D I) l yJ5_length_8abf5 cJ5_length_8abf5 1 (some FieldType.int) 0 0 0 0 [.ref q657645] (va_pl P657643 F657644) (pp_657652_AbstractStringBuilder_length D I P657643 F657644 q657645 q657646 p657647 p657648 f657649 n657650) gNA := by
  refine CtA_ofF hl0 (by decide +kernel) (Nat.le_of_ble_eq_true rfl) ?_
  refine G_aload_n 0 dr_cJ5_length_8abf5_0 rfl ?_
  refine Gp_get 3 hmq657645 heq657645 dr_cJ5_length_8abf5_1 (gk_J4 D I) (Nat.le_of_ble_eq_true rfl) wr_7_64 rfl ?_
  exact G_iretA dr_cJ5_length_8abf5_4 rfl (Nat.le_of_ble_eq_true rfl) (Nat.le_of_ble_eq_true rfl) ⟨rfl, rfl, (Nat.le_of_ble_eq_true rfl), (Nat.le_of_ble_eq_true rfl)⟩
abbrev ky_657642_StringBuilder_length : gKey := (cJ4_length_8abf5, 1, "java/lang/StringBuilder", (some FieldType.int), [], "length", fun _ _ => True)
def pp_657642_StringBuilder_length (D : va_G) (I : FieldType → ClassId) (P657633 : List Nat) (F657634 : Nat → va_E) (q657635 : Nat) (q657636 : Nat) (p657637 : Int32) (p657638 : Int32) (f657639 : Nat → Int32) (n657640 : Nat) : Option Value → va_W → Nat → Nat → Prop := fun r w dc ds => r = some (.int p657638) ∧ w = va_pl P657633 F657634 ∧ dc ≤ 0 ∧ ds ≤ 0
set_option maxRecDepth 100000 in
set_option maxHeartbeats 4000000 in
theorem cp_657642_StringBuilder_length (l : Launch) (hl0 : l.stackTraces = false) (D : va_G) (I : FieldType → ClassId) (P657633 : List Nat) (F657634 : Nat → va_E) (q657635 : Nat) (q657636 : Nat) (p657637 : Int32) (p657638 : Int32) (f657639 : Nat → Int32) (n657640 : Nat) (hmq657635 : q657635 ∈ P657633) (hmq657636 : q657636 ∈ P657633) (heq657635 : F657634 q657635 = .inr (1, [.ref q657636, .int 0, .int p657637, .int p657638])) (heq657636 : F657634 q657636 = .inl (I .byte, n657640, .inl f657639)) (bp657637 : gB p657637 0 1) (bp657638 : gB p657638 0 16777216) (bf657639 : gF f657639 (-128) 127) (x657641 : ((n657640 : Int) ≤ 16777216)) : CtA (gV D I) l yJ4_length_8abf5 cJ4_length_8abf5 1 (some FieldType.int) 1 20 0 0 [.ref q657635] (va_pl P657633 F657634) (pp_657642_StringBuilder_length D I P657633 F657634 q657635 q657636 p657637 p657638 f657639 n657640) gNA := by
  refine CtA_ofF hl0 (by decide +kernel) (Nat.le_of_ble_eq_true rfl) ?_
  refine G_aload_n 0 dr_cJ4_length_8abf5_0 rfl ?_
  refine Gw_callSU (As := []) (gV_ok D I) (cp_657652_AbstractStringBuilder_length l hl0 D I P657633 F657634 q657635 q657636 p657637 p657638 f657639 n657640 hmq657635 hmq657636 heq657635 heq657636 bp657637 bp657638 bf657639 (by have qa0 : Int32.toInt 0 = 0 := (by decide); omega)) dr_cJ4_length_8abf5_1 ⟨wr_8_90, wr_1_19, wr_8_91, by decide, rfl, (Nat.le_of_ble_eq_true rfl), (Nat.le_of_ble_eq_true rfl)⟩ wr_8_85 wr_8_86 wr_7_73 wr_7_44 (by decide) hmq657635 heq657635 rfl (show 0 + 0 ≤ 0 by first | omega | decide) (show 0 + 0 ≤ 0 by first | omega | decide) (Nat.le_of_ble_eq_true rfl) (fun r657656 w657657 dc657653 ds657654 hp657655 => ?_)
  obtain ⟨rfl, rfl, hdc, hds⟩ := hp657655
  change G _ _ _ _ _ _ _ (.int p657638 :: _) _ _ _
  refine G_widen (cs' := 0) (sl' := 0) (by omega) (by omega) ?_
  exact G_iretA dr_cJ4_length_8abf5_4 rfl (Nat.le_of_ble_eq_true rfl) (Nat.le_of_ble_eq_true rfl) ⟨rfl, rfl, (Nat.le_of_ble_eq_true rfl), (Nat.le_of_ble_eq_true rfl)⟩
/- tr_RPreconditions_checkIndex2:  -/
def tr_RPreconditions_checkIndex2 (a0 : Int32) (a1 : Int32) : Prop := ∀ R : Prop,
  (a0.toInt < a1.toInt → R) →
  R
abbrev ky_657706_Preconditions_checkIndex : gKey := (cJ3_checkIndex_8e157, 3, "jdk/internal/util/Preconditions", (some FieldType.int), [], "checkIndex", fun _ _ => True)
def pp_657706_Preconditions_checkIndex (D : va_G) (I : FieldType → ClassId) (P657700 : List Nat) (F657701 : Nat → va_E) (p657702 : Int32) (p657703 : Int32) (qo657704 : Nat) : Option Value → va_W → Nat → Nat → Prop := fun r w dc ds => r = some (.int p657702) ∧ w = va_pl P657700 F657701 ∧ dc ≤ 0 ∧ ds ≤ 0 ∧ tr_RPreconditions_checkIndex2 p657702 p657703
set_option maxRecDepth 100000 in
set_option maxHeartbeats 4000000 in
theorem cp_657706_Preconditions_checkIndex (l : Launch) (hl0 : l.stackTraces = false) (D : va_G) (I : FieldType → ClassId) (P657700 : List Nat) (F657701 : Nat → va_E) (p657702 : Int32) (p657703 : Int32) (qo657704 : Nat) (bp657702 : gB p657702 0 16777216) (bp657703 : gB p657703 0 16777216) (x657705 : p657702.toInt < p657703.toInt) : CtA (gV D I) l yJ3_checkIndex_8e157 cJ3_checkIndex_8e157 3 (some FieldType.int) 0 0 0 0 [.int p657702, .int p657703, .ref qo657704] (va_pl P657700 F657701) (pp_657706_Preconditions_checkIndex D I P657700 F657701 p657702 p657703 qo657704) gNA := by
  refine CtA_ofF hl0 (by decide +kernel) (Nat.le_of_ble_eq_true rfl) ?_
  refine G_iload_n 0 dr_cJ3_checkIndex_8e157_0 rfl ?_
  refine G_if_lt 9 dr_cJ3_checkIndex_8e157_1 (by decide +kernel) (fun hc => absurd (show False by have := gj_lt hc (show Int32.toInt 0 = 0 by decide); omega) not_false) (fun _ => ?_)
  refine G_iload_n 0 dr_cJ3_checkIndex_8e157_4 rfl ?_
  refine G_iload_n 1 dr_cJ3_checkIndex_8e157_5 rfl ?_
  refine G_icmp_lt 16 dr_cJ3_checkIndex_8e157_6 (by decide +kernel) (fun hc657707 => ?_) (fun hc657707 => ?_)
  · have r657708 : p657702.toInt < p657703.toInt := gC_lt hc657707
    have bp657702' : gB p657702 0 16777215 := ⟨by omega, by omega⟩
    have bp657703' : gB p657703 1 16777216 := ⟨by omega, by omega⟩
    refine G_iload_n 0 dr_cJ3_checkIndex_8e157_16 rfl ?_
    exact G_iretA dr_cJ3_checkIndex_8e157_17 rfl (Nat.le_of_ble_eq_true rfl) (Nat.le_of_ble_eq_true rfl) ⟨rfl, rfl, (Nat.le_of_ble_eq_true rfl), (Nat.le_of_ble_eq_true rfl), (fun R c1 => c1 r657708)⟩
  · have r657709 : p657703.toInt ≤ p657702.toInt := gC_nlt hc657707
    exact absurd (show False by omega) not_false
/- tr_RString_checkIndex:  -/
def tr_RString_checkIndex (a0 : Int32) (a1 : Int32) : Prop := ∀ R : Prop,
  (tr_RPreconditions_checkIndex a0 a1 → R) →
  (tr_RPreconditions_checkIndex2 a0 a1 → R) →
  R
abbrev ky_657692_String_checkIndex : gKey := (cJ0_checkIndex_df160, 2, "java/lang/String", none, [], "checkIndex", fun _ _ => True)
def pp_657692_String_checkIndex (D : va_G) (I : FieldType → ClassId) (P657687 : List Nat) (F657688 : Nat → va_E) (p657689 : Int32) (p657690 : Int32) : Option Value → va_W → Nat → Nat → Prop := fun r w dc ds => r = none ∧ w = va_pl P657687 F657688 ∧ dc ≤ 0 ∧ ds ≤ 0 ∧ tr_RString_checkIndex p657689 p657690
set_option maxRecDepth 100000 in
set_option maxHeartbeats 4000000 in
theorem cp_657692_String_checkIndex (l : Launch) (hl0 : l.stackTraces = false) (D : va_G) (I : FieldType → ClassId) (P657687 : List Nat) (F657688 : Nat → va_E) (p657689 : Int32) (p657690 : Int32) (bp657689 : gB p657689 0 16777216) (bp657690 : gB p657690 0 16777216) (x657691 : p657689.toInt < p657690.toInt) : CtA (gV D I) l yJ0_checkIndex_df160 cJ0_checkIndex_df160 2 none 1 22 0 0 [.int p657689, .int p657690] (va_pl P657687 F657688) (pp_657692_String_checkIndex D I P657687 F657688 p657689 p657690) gNA := by
  refine CtA_ofF hl0 (by decide +kernel) (Nat.le_of_ble_eq_true rfl) ?_
  refine G_iload_n 0 dr_cJ0_checkIndex_df160_0 rfl ?_
  refine G_iload_n 1 dr_cJ0_checkIndex_df160_1 rfl ?_
  refine G_gets dr_cJ0_checkIndex_df160_2 wr_3_81 gz_pf (fun x hx => ?_)
  rcases hx with rfl | ⟨t657693, rfl⟩
  · refine Gw_callS (As := [.int p657689, .int p657690, .null]) (gV_ok D I) (cp_34_Preconditions_checkIndex l hl0 D I P657687 F657688 p657689 p657690 bp657689 bp657690 (by omega)) dr_cJ0_checkIndex_df160_5 ⟨wr_3_83, wr_1_29, wr_3_85, by decide, rfl, (Nat.le_of_ble_eq_true rfl), (Nat.le_of_ble_eq_true rfl)⟩ wr_3_84 (show 0 + 0 ≤ 0 by first | omega | decide) (show 0 + 0 ≤ 0 by first | omega | decide) (Nat.le_of_ble_eq_true rfl) (fun r657697 w657698 dc657694 ds657695 hp657696 => ?_) (fun _ _ _ _ _ z => z.elim)
    obtain ⟨rfl, rfl, hdc, hds, ht657699⟩ := hp657696
    change G _ _ _ _ _ _ _ (.int p657689 :: _) _ _ _
    refine G_widen (cs' := 0) (sl' := 0) (by omega) (by omega) ?_
    refine G_pop dr_cJ0_checkIndex_df160_8 rfl ?_
    exact G_vretA dr_cJ0_checkIndex_df160_9 rfl (Nat.le_of_ble_eq_true rfl) (Nat.le_of_ble_eq_true rfl) ⟨rfl, rfl, (Nat.le_of_ble_eq_true rfl), (Nat.le_of_ble_eq_true rfl), (fun R c1 c2 => c1 ht657699)⟩
  · refine Gw_callS (As := [.int p657689, .int p657690, .ref t657693]) (gV_ok D I) (cp_657706_Preconditions_checkIndex l hl0 D I P657687 F657688 p657689 p657690 t657693 bp657689 bp657690 (by omega)) dr_cJ0_checkIndex_df160_5 ⟨wr_3_83, wr_1_29, wr_3_85, by decide, rfl, (Nat.le_of_ble_eq_true rfl), (Nat.le_of_ble_eq_true rfl)⟩ wr_3_84 (show 0 + 0 ≤ 0 by first | omega | decide) (show 0 + 0 ≤ 0 by first | omega | decide) (Nat.le_of_ble_eq_true rfl) (fun r657713 w657714 dc657710 ds657711 hp657712 => ?_) (fun _ _ _ _ _ z => z.elim)
    obtain ⟨rfl, rfl, hdc, hds, ht657715⟩ := hp657712
    change G _ _ _ _ _ _ _ (.int p657689 :: _) _ _ _
    refine G_widen (cs' := 0) (sl' := 0) (by omega) (by omega) ?_
    refine G_pop dr_cJ0_checkIndex_df160_8 rfl ?_
    exact G_vretA dr_cJ0_checkIndex_df160_9 rfl (Nat.le_of_ble_eq_true rfl) (Nat.le_of_ble_eq_true rfl) ⟨rfl, rfl, (Nat.le_of_ble_eq_true rfl), (Nat.le_of_ble_eq_true rfl), (fun R c1 c2 => c2 ht657715)⟩
/- tr_RAbstractStringBuilder_charAt: result -/
def tr_RAbstractStringBuilder_charAt (a1 : Int32) (a0_count : Int32) (a0_value_v : Nat → Int32) (a0_value_n : Nat) (o1 : Int32) : Prop := ∀ R : (Int32) → Prop,
  (∀ (x1 : Int32) (x2 : Int32) (x3 : Int32) (x4 : Int32) (x5 : Int32) (x6 : Int32), x1.toInt = (a0_value_n : Nat) → x2.toInt = x1.toInt / 1 → (a0_count.toInt ≥ x3.toInt ∧ x2.toInt ≥ x3.toInt ∧ (x3.toInt = a0_count.toInt ∨ x3.toInt = x2.toInt)) → tr_RString_checkIndex a1 x3 → x4 = a0_value_v a1.toNatClampNeg → gB x4 (-128) 127 → x5 = x4 &&& (255 : Int32) → x6 = (x5.toUInt32 % 65536).toInt32 → R x6) →
  R o1
abbrev ky_657683_AbstractStringBuilder_charAt : gKey := (cJ5_charAt_5068e, 5, "java/lang/AbstractStringBuilder", (some FieldType.char), [], "charAt", fun _ _ => True)
def pp_657683_AbstractStringBuilder_charAt (D : va_G) (I : FieldType → ClassId) (P657671 : List Nat) (F657672 : Nat → va_E) (q657673 : Nat) (q657674 : Nat) (p657675 : Int32) (p657676 : Int32) (p657677 : Int32) (f657678 : Nat → Int32) (n657679 : Nat) : Option Value → va_W → Nat → Nat → Prop := fun r w dc ds => ∃ (o657725 : Int32), r = some (.int o657725) ∧ w = va_pl P657671 F657672 ∧ dc ≤ 0 ∧ ds ≤ 0 ∧ gB o657725 0 65535 ∧ tr_RAbstractStringBuilder_charAt p657675 p657677 f657678 n657679 o657725
set_option maxRecDepth 100000 in
set_option maxHeartbeats 4000000 in
theorem cp_657683_AbstractStringBuilder_charAt (l : Launch) (hl0 : l.stackTraces = false) (D : va_G) (I : FieldType → ClassId) (P657671 : List Nat) (F657672 : Nat → va_E) (q657673 : Nat) (q657674 : Nat) (p657675 : Int32) (p657676 : Int32) (p657677 : Int32) (f657678 : Nat → Int32) (n657679 : Nat) (hmq657673 : q657673 ∈ P657671) (hmq657674 : q657674 ∈ P657671) (heq657673 : F657672 q657673 = .inr (1, [.ref q657674, .int 0, .int p657676, .int p657677])) (heq657674 : F657672 q657674 = .inl (I .byte, n657679, .inl f657678)) (bp657675 : gB p657675 0 16777215) (bp657676 : gB p657676 0 1) (bp657677 : gB p657677 0 16777216) (bf657678 : gF f657678 (-128) 127) (x657680 : p657675.toInt < p657677.toInt) (x657681 : p657677.toInt ≤ (n657679 : Int)) (x657682 : ((n657679 : Int) ≤ 16777216)) : CtA (gV D I) l yJ5_charAt_5068e cJ5_charAt_5068e 5 (some FieldType.char) 2 43 0 0 [.ref q657673, .int p657675] (va_pl P657671 F657672) (pp_657683_AbstractStringBuilder_charAt D I P657671 F657672 q657673 q657674 p657675 p657676 p657677 f657678 n657679) gNA := by
  refine CtA_ofF hl0 (by decide +kernel) (Nat.le_of_ble_eq_true rfl) ?_
  refine G_aload_n 0 dr_cJ5_charAt_5068e_0 rfl ?_
  refine Gp_get 1 hmq657673 heq657673 dr_cJ5_charAt_5068e_1 (gk_J4 D I) (Nat.le_of_ble_eq_true rfl) wr_7_61 rfl ?_
  refine G_istore_n (L' := [(2, .int 0), (0, .ref q657673), (1, .int p657675)]) dr_cJ5_charAt_5068e_4 (Nat.le_of_ble_eq_true rfl) rfl ?_
  refine G_aload_n 1 dr_cJ5_charAt_5068e_5 rfl ?_
  refine Gp_get 0 hmq657673 heq657673 dr_cJ5_charAt_5068e_6 (gk_J4 D I) (Nat.le_of_ble_eq_true rfl) wr_7_60 rfl ?_
  refine G_astore_n (L' := [(3, .ref q657674), (2, .int 0), (0, .ref q657673), (1, .int p657675)]) dr_cJ5_charAt_5068e_9 (Nat.le_of_ble_eq_true rfl) rfl ?_
  refine G_aload_n 2 dr_cJ5_charAt_5068e_10 rfl ?_
  refine Gp_get 3 hmq657673 heq657673 dr_cJ5_charAt_5068e_11 (gk_J4 D I) (Nat.le_of_ble_eq_true rfl) wr_7_64 rfl ?_
  refine G_aload_n 0 dr_cJ5_charAt_5068e_14 rfl ?_
  refine Gp_alen (Int32.ofNat n657679) 1 hmq657674 heq657674 dr_cJ5_charAt_5068e_15 rfl rfl (G_nam fun z657684 hz657684 => ?_)
  have ez657684 : z657684.toInt = (n657679 : Nat) := gI_ofM hz657684 (by omega)
  have bz657684 : gB z657684 0 16777216 := ⟨by omega, by omega⟩
  refine G_iload_n 1 dr_cJ5_charAt_5068e_16 rfl ?_
  refine G_ishr dr_cJ5_charAt_5068e_17 (G_nam fun z657685 hz657685 => ?_)
  have ez657685 : z657685.toInt = z657684.toInt / 1 := gI_shr (k := 0) hz657685 (by decide)
  have bz657685 : gB z657685 0 16777216 := ⟨by omega, by omega⟩
  refine G_mmin dr_cJ5_charAt_5068e_18 wr_11_216 wr_3_227 wr_1_6 wr_3_228 (Nat.le_of_ble_eq_true rfl) (Nat.le_of_ble_eq_true rfl) (show 0 ≤ 0 by first | omega | decide) (show 0 ≤ 0 by first | omega | decide) (G_nam fun z657686 hz657686 => ?_)
  have ez657686 : p657677.toInt ≥ z657686.toInt ∧ z657685.toInt ≥ z657686.toInt ∧ (z657686.toInt = p657677.toInt ∨ z657686.toInt = z657685.toInt) := by have := gI_min hz657686; omega
  have bz657686 : gB z657686 0 16777216 := ⟨by omega, by omega⟩
  refine G_istore (L' := [(4, .int z657686), (3, .ref q657674), (2, .int 0), (0, .ref q657673), (1, .int p657675)]) dr_cJ5_charAt_5068e_21 (Nat.le_of_ble_eq_true rfl) rfl ?_
  refine G_iload_n 4 dr_cJ5_charAt_5068e_23 rfl ?_
  refine G_iload 0 dr_cJ5_charAt_5068e_24 rfl ?_
  refine Gw_callS (As := [.int p657675, .int z657686]) (gV_ok D I) (cp_657692_String_checkIndex l hl0 D I P657671 F657672 p657675 z657686 (gB_w bp657675 (by decide) (by decide)) bz657686 (by have qa0 : Int32.toInt 0 = 0 := (by decide); omega)) dr_cJ5_charAt_5068e_26 ⟨wr_11_217, wr_1_21, wr_3_80, by decide, rfl, (Nat.le_of_ble_eq_true rfl), (Nat.le_of_ble_eq_true rfl)⟩ wr_3_79 (show 0 + 0 ≤ 0 by first | omega | decide) (show 0 + 0 ≤ 0 by first | omega | decide) (Nat.le_of_ble_eq_true rfl) (fun r657719 w657720 dc657716 ds657717 hp657718 => ?_) (fun _ _ _ _ _ z => z.elim)
  obtain ⟨rfl, rfl, hdc, hds, ht657721⟩ := hp657718
  change G _ _ _ _ _ _ _ _ _ _ _
  refine G_widen (cs' := 0) (sl' := 0) (by omega) (by omega) ?_
  refine G_iload_n 2 dr_cJ5_charAt_5068e_29 rfl ?_
  refine G_if_ne 42 dr_cJ5_charAt_5068e_30 (by decide +kernel) (fun hc => absurd hc (by decide)) (fun _ => ?_)
  refine G_aload_n 1 dr_cJ5_charAt_5068e_33 rfl ?_
  refine G_iload_n 4 dr_cJ5_charAt_5068e_34 rfl ?_
  refine Gp_bald 1 hmq657674 heq657674 dr_cJ5_charAt_5068e_35 rfl (gB_inr (by omega) (by omega)) (G_nam fun z657722 hz657722 => ?_)
  have bz657722 : gB z657722 (-128) 127 := by rw [hz657722]; exact bf657678 _
  refine G_sipush 255 dr_cJ5_charAt_5068e_36 (by decide +kernel) ?_
  refine G_iand dr_cJ5_charAt_5068e_39 (G_nam fun z657723 hz657723 => ?_)
  have bz657723 : gB z657723 0 255 := gB_and hz657723 (gBl (show Int32.toInt 255 = 255 by decide)) (by decide)
  refine G_i2c dr_cJ5_charAt_5068e_40 (G_nam fun z657724 hz657724 => ?_)
  have bz657724 : gB z657724 0 65535 := gB_i2c hz657724
  exact G_zretA FieldType.char dr_cJ5_charAt_5068e_41 rfl (gN_char bz657724) (Nat.le_of_ble_eq_true rfl) (Nat.le_of_ble_eq_true rfl) ⟨z657724, rfl, rfl, (Nat.le_of_ble_eq_true rfl), (Nat.le_of_ble_eq_true rfl), bz657724, (fun R c1 => c1 z657684 z657685 z657686 z657722 z657723 z657724 ez657684 ez657685 ez657686 ht657721 hz657722 bz657722 hz657723 hz657724)⟩
/- tr_RStringBuilder_charAt: result -/
def tr_RStringBuilder_charAt (a1 : Int32) (a0_count : Int32) (a0_value_v : Nat → Int32) (a0_value_n : Nat) (o1 : Int32) : Prop := ∀ R : (Int32) → Prop,
  (∀ (x1 : Int32), gB x1 0 65535 → tr_RAbstractStringBuilder_charAt a1 a0_count a0_value_v a0_value_n x1 → R x1) →
  R o1
abbrev ky_657670_StringBuilder_charAt : gKey := (cJ4_charAt_5068e, 2, "java/lang/StringBuilder", (some FieldType.char), [], "charAt", fun _ _ => True)
def pp_657670_StringBuilder_charAt (D : va_G) (I : FieldType → ClassId) (P657658 : List Nat) (F657659 : Nat → va_E) (q657660 : Nat) (q657661 : Nat) (p657662 : Int32) (p657663 : Int32) (p657664 : Int32) (f657665 : Nat → Int32) (n657666 : Nat) : Option Value → va_W → Nat → Nat → Prop := fun r w dc ds => ∃ (o657733 : Int32), r = some (.int o657733) ∧ w = va_pl P657658 F657659 ∧ dc ≤ 0 ∧ ds ≤ 0 ∧ gB o657733 0 65535 ∧ tr_RStringBuilder_charAt p657662 p657664 f657665 n657666 o657733
set_option maxRecDepth 100000 in
set_option maxHeartbeats 4000000 in
theorem cp_657670_StringBuilder_charAt (l : Launch) (hl0 : l.stackTraces = false) (D : va_G) (I : FieldType → ClassId) (P657658 : List Nat) (F657659 : Nat → va_E) (q657660 : Nat) (q657661 : Nat) (p657662 : Int32) (p657663 : Int32) (p657664 : Int32) (f657665 : Nat → Int32) (n657666 : Nat) (hmq657660 : q657660 ∈ P657658) (hmq657661 : q657661 ∈ P657658) (heq657660 : F657659 q657660 = .inr (1, [.ref q657661, .int 0, .int p657663, .int p657664])) (heq657661 : F657659 q657661 = .inl (I .byte, n657666, .inl f657665)) (bp657662 : gB p657662 0 16777215) (bp657663 : gB p657663 0 1) (bp657664 : gB p657664 0 16777216) (bf657665 : gF f657665 (-128) 127) (x657667 : p657662.toInt < p657664.toInt) (x657668 : p657664.toInt ≤ (n657666 : Int)) (x657669 : ((n657666 : Int) ≤ 16777216)) : CtA (gV D I) l yJ4_charAt_5068e cJ4_charAt_5068e 2 (some FieldType.char) 3 67 0 0 [.ref q657660, .int p657662] (va_pl P657658 F657659) (pp_657670_StringBuilder_charAt D I P657658 F657659 q657660 q657661 p657662 p657663 p657664 f657665 n657666) gNA := by
  refine CtA_ofF hl0 (by decide +kernel) (Nat.le_of_ble_eq_true rfl) ?_
  refine G_aload_n 0 dr_cJ4_charAt_5068e_0 rfl ?_
  refine G_iload_n 1 dr_cJ4_charAt_5068e_1 rfl ?_
  refine Gw_callSU (As := [.int p657662]) (gV_ok D I) (cp_657683_AbstractStringBuilder_charAt l hl0 D I P657658 F657659 q657660 q657661 p657662 p657663 p657664 f657665 n657666 hmq657660 hmq657661 heq657660 heq657661 bp657662 bp657663 bp657664 bf657665 (by have qa0 : Int32.toInt 0 = 0 := (by decide); omega) (by have qa0 : Int32.toInt 0 = 0 := (by decide); omega) (by have qa0 : Int32.toInt 0 = 0 := (by decide); omega)) dr_cJ4_charAt_5068e_2 ⟨wr_11_213, wr_1_19, wr_11_215, by decide, rfl, (Nat.le_of_ble_eq_true rfl), (Nat.le_of_ble_eq_true rfl)⟩ wr_11_214 wr_11_235 wr_7_73 wr_7_44 (by decide) hmq657660 heq657660 rfl (show 0 + 0 ≤ 0 by first | omega | decide) (show 0 + 0 ≤ 0 by first | omega | decide) (Nat.le_of_ble_eq_true rfl) (fun r657729 w657730 dc657726 ds657727 hp657728 => ?_)
  obtain ⟨o657731, rfl, rfl, hdc, hds, bo657731, ht657732⟩ := hp657728
  change G _ _ _ _ _ _ _ (.int o657731 :: _) _ _ _
  refine G_widen (cs' := 0) (sl' := 0) (by omega) (by omega) ?_
  exact G_zretA FieldType.char dr_cJ4_charAt_5068e_5 rfl (gN_char bo657731) (Nat.le_of_ble_eq_true rfl) (Nat.le_of_ble_eq_true rfl) ⟨o657731, rfl, rfl, (Nat.le_of_ble_eq_true rfl), (Nat.le_of_ble_eq_true rfl), bo657731, (fun R c1 => c1 o657731 bo657731 ht657732)⟩
/- tr_RAbstractStringBuilder_ensureCapacityInternal:  -/
def tr_RAbstractStringBuilder_ensureCapacityInternal (a1 : Int32) (a0_value_n : Nat) : Prop := ∀ R : Prop,
  (∀ (x1 : Int32) (x2 : Int32) (x3 : Int32), x1.toInt = (a0_value_n : Nat) → x2.toInt = x1.toInt / 1 → x3.toInt = a1.toInt - x2.toInt → x3.toInt ≤ 0 → R) →
  R
abbrev ky_657770_AbstractStringBuilder_ensureCapacityInternal : gKey := (cJ5_ensureCapacityInternal_d00df, 3, "java/lang/AbstractStringBuilder", none, [], "ensureCapacityInternal", fun _ _ => True)
def pp_657770_AbstractStringBuilder_ensureCapacityInternal (D : va_G) (I : FieldType → ClassId) (P657759 : List Nat) (F657760 : Nat → va_E) (q657761 : Nat) (q657762 : Nat) (p657763 : Int32) (p657764 : Int32) (p657765 : Int32) (f657766 : Nat → Int32) (n657767 : Nat) : Option Value → va_W → Nat → Nat → Prop := fun r w dc ds => r = none ∧ w = va_pl P657759 F657760 ∧ dc ≤ 0 ∧ ds ≤ 0 ∧ tr_RAbstractStringBuilder_ensureCapacityInternal p657763 n657767
set_option maxRecDepth 100000 in
set_option maxHeartbeats 4000000 in
theorem cp_657770_AbstractStringBuilder_ensureCapacityInternal (l : Launch) (hl0 : l.stackTraces = false) (D : va_G) (I : FieldType → ClassId) (P657759 : List Nat) (F657760 : Nat → va_E) (q657761 : Nat) (q657762 : Nat) (p657763 : Int32) (p657764 : Int32) (p657765 : Int32) (f657766 : Nat → Int32) (n657767 : Nat) (hmq657761 : q657761 ∈ P657759) (hmq657762 : q657762 ∈ P657759) (heq657761 : F657760 q657761 = .inr (1, [.ref q657762, .int 0, .int p657764, .int p657765])) (heq657762 : F657760 q657762 = .inl (I .byte, n657767, .inl f657766)) (bp657763 : gB p657763 0 16777216) (bp657764 : gB p657764 0 1) (bp657765 : gB p657765 0 16777216) (bf657766 : gF f657766 (-128) 127) (x657768 : p657763.toInt ≤ (n657767 : Int)) (x657769 : ((n657767 : Int) ≤ 16777216)) : CtA (gV D I) l yJ5_ensureCapacityInternal_d00df cJ5_ensureCapacityInternal_d00df 3 none 0 0 0 0 [.ref q657761, .int p657763] (va_pl P657759 F657760) (pp_657770_AbstractStringBuilder_ensureCapacityInternal D I P657759 F657760 q657761 q657762 p657763 p657764 p657765 f657766 n657767) gNA := by
  refine CtA_ofF hl0 (by decide +kernel) (Nat.le_of_ble_eq_true rfl) ?_
  refine G_aload_n 0 dr_cJ5_ensureCapacityInternal_d00df_0 rfl ?_
  refine Gp_get 0 hmq657761 heq657761 dr_cJ5_ensureCapacityInternal_d00df_1 (gk_J4 D I) (Nat.le_of_ble_eq_true rfl) wr_7_60 rfl ?_
  refine Gp_alen (Int32.ofNat n657767) 1 hmq657762 heq657762 dr_cJ5_ensureCapacityInternal_d00df_4 rfl rfl (G_nam fun z657771 hz657771 => ?_)
  have ez657771 : z657771.toInt = (n657767 : Nat) := gI_ofM hz657771 (by omega)
  have bz657771 : gB z657771 0 16777216 := ⟨by omega, by omega⟩
  refine G_aload_n 0 dr_cJ5_ensureCapacityInternal_d00df_5 rfl ?_
  refine Gp_get 1 hmq657761 heq657761 dr_cJ5_ensureCapacityInternal_d00df_6 (gk_J4 D I) (Nat.le_of_ble_eq_true rfl) wr_7_61 rfl ?_
  refine G_ishr dr_cJ5_ensureCapacityInternal_d00df_9 (G_nam fun z657772 hz657772 => ?_)
  have ez657772 : z657772.toInt = z657771.toInt / 1 := gI_shr (k := 0) hz657772 (by decide)
  have bz657772 : gB z657772 0 16777216 := ⟨by omega, by omega⟩
  refine G_istore_n (L' := [(2, .int z657772), (0, .ref q657761), (1, .int p657763)]) dr_cJ5_ensureCapacityInternal_d00df_10 (Nat.le_of_ble_eq_true rfl) rfl ?_
  refine G_iload_n 2 dr_cJ5_ensureCapacityInternal_d00df_11 rfl ?_
  refine G_iload_n 0 dr_cJ5_ensureCapacityInternal_d00df_12 rfl ?_
  refine G_isub dr_cJ5_ensureCapacityInternal_d00df_13 (G_nam fun z657773 hz657773 => ?_)
  have ez657773 : z657773.toInt = p657763.toInt - z657772.toInt := by rw [gI_sub hz657773 bp657763 bz657772 (by decide) (by decide)]
  have bz657773 : gB z657773 (-16777216) 16777216 := gB_sub (gI_sub hz657773 bp657763 bz657772 (by decide) (by decide)) bp657763 bz657772 (by decide) (by decide)
  refine G_if_le 38 dr_cJ5_ensureCapacityInternal_d00df_14 (by decide +kernel) (fun hc657774 => ?_) (fun hc => absurd (show False by have := gj_nle hc (show Int32.toInt 0 = 0 by decide); omega) not_false)
  have r657776 : z657773.toInt ≤ 0 := gj_le hc657774 (show Int32.toInt 0 = 0 by decide)
  have bz657773' : gB z657773 (-16777216) 0 := ⟨by omega, by omega⟩
  exact G_vretA dr_cJ5_ensureCapacityInternal_d00df_38 rfl (Nat.le_of_ble_eq_true rfl) (Nat.le_of_ble_eq_true rfl) ⟨rfl, rfl, (Nat.le_of_ble_eq_true rfl), (Nat.le_of_ble_eq_true rfl), (fun R c1 => c1 z657771 z657772 z657773 ez657771 ez657772 ez657773 r657776)⟩
abbrev ky_657792_AbstractStringBuilder_isLatin1 : gKey := (cJ5_isLatin1_aae02, 1, "java/lang/AbstractStringBuilder", (some FieldType.boolean), [], "isLatin1", fun _ _ => True)
def pp_657792_AbstractStringBuilder_isLatin1 (D : va_G) (I : FieldType → ClassId) (P657783 : List Nat) (F657784 : Nat → va_E) (q657785 : Nat) (q657786 : Nat) (p657787 : Int32) (p657788 : Int32) (f657789 : Nat → Int32) (n657790 : Nat) : Option Value → va_W → Nat → Nat → Prop := fun r w dc ds => r = some (.int 1) ∧ w = va_pl P657783 F657784 ∧ dc ≤ 0 ∧ ds ≤ 0
set_option maxRecDepth 100000 in
set_option maxHeartbeats 4000000 in
theorem cp_657792_AbstractStringBuilder_isLatin1 (l : Launch) (hl0 : l.stackTraces = false) (D : va_G) (I : FieldType → ClassId) (P657783 : List Nat) (F657784 : Nat → va_E) (q657785 : Nat) (q657786 : Nat) (p657787 : Int32) (p657788 : Int32) (f657789 : Nat → Int32) (n657790 : Nat) (hmq657785 : q657785 ∈ P657783) (hmq657786 : q657786 ∈ P657783) (heq657785 : F657784 q657785 = .inr (1, [.ref q657786, .int 0, .int p657787, .int p657788])) (heq657786 : F657784 q657786 = .inl (I .byte, n657790, .inl f657789)) (bp657787 : gB p657787 0 1) (bp657788 : gB p657788 0 16777216) (bf657789 : gF f657789 (-128) 127) (x657791 : ((n657790 : Int) ≤ 16777216)) : CtA (gV D I) l yJ5_isLatin1_aae02 cJ5_isLatin1_aae02 1 (some FieldType.boolean) 0 0 0 0 [.ref q657785] (va_pl P657783 F657784) (pp_657792_AbstractStringBuilder_isLatin1 D I P657783 F657784 q657785 q657786 p657787 p657788 f657789 n657790) gNA := by
  refine CtA_ofF hl0 (by decide +kernel) (Nat.le_of_ble_eq_true rfl) ?_
  refine G_gets dr_cJ5_isLatin1_aae02_0 wr_7_52 gz_cs (fun x hx => ?_)
  subst hx
  refine G_if_eq 17 dr_cJ5_isLatin1_aae02_3 (by decide +kernel) (fun hc => absurd hc (by decide)) (fun _ => ?_)
  refine G_aload_n 0 dr_cJ5_isLatin1_aae02_6 rfl ?_
  refine Gp_get 1 hmq657785 heq657785 dr_cJ5_isLatin1_aae02_7 (gk_J4 D I) (Nat.le_of_ble_eq_true rfl) wr_7_61 rfl ?_
  refine G_if_ne 17 dr_cJ5_isLatin1_aae02_10 (by decide +kernel) (fun hc => absurd hc (by decide)) (fun _ => ?_)
  refine G_iconst 1 dr_cJ5_isLatin1_aae02_13 (by decide +kernel) ?_
  refine G_goto 18 dr_cJ5_isLatin1_aae02_14 (by decide +kernel) ?_
  exact G_zretA FieldType.boolean dr_cJ5_isLatin1_aae02_18 rfl rfl (Nat.le_of_ble_eq_true rfl) (Nat.le_of_ble_eq_true rfl) ⟨rfl, rfl, (Nat.le_of_ble_eq_true rfl), (Nat.le_of_ble_eq_true rfl)⟩
/- tr_RStringLatin1_canEncode: result -/
def tr_RStringLatin1_canEncode (a0 : Int32) (o1 : Int32) : Prop := ∀ R : (Int32) → Prop,
  (255 < a0.toInt → R (0 : Int32)) →
  (a0.toInt ≤ 255 → R (1 : Int32)) →
  R o1
abbrev ky_657801_StringLatin1_canEncode : gKey := (cJ1_canEncode_fc78d, 1, "java/lang/StringLatin1", (some FieldType.boolean), [], "canEncode", fun _ _ => True)
def pp_657801_StringLatin1_canEncode (D : va_G) (I : FieldType → ClassId) (P657798 : List Nat) (F657799 : Nat → va_E) (p657800 : Int32) : Option Value → va_W → Nat → Nat → Prop := fun r w dc ds => (r = some (.int 0) ∧ w = va_pl P657798 F657799 ∧ dc ≤ 0 ∧ ds ≤ 0 ∧ 255 < p657800.toInt ∧ tr_RStringLatin1_canEncode p657800 (0 : Int32)) ∨ (r = some (.int 1) ∧ w = va_pl P657798 F657799 ∧ dc ≤ 0 ∧ ds ≤ 0 ∧ p657800.toInt ≤ 255 ∧ tr_RStringLatin1_canEncode p657800 (1 : Int32))
set_option maxRecDepth 100000 in
set_option maxHeartbeats 4000000 in
theorem cp_657801_StringLatin1_canEncode (l : Launch) (hl0 : l.stackTraces = false) (D : va_G) (I : FieldType → ClassId) (P657798 : List Nat) (F657799 : Nat → va_E) (p657800 : Int32) (bp657800 : gB p657800 0 65535) : CtA (gV D I) l yJ1_canEncode_fc78d cJ1_canEncode_fc78d 1 (some FieldType.boolean) 0 0 0 0 [.int p657800] (va_pl P657798 F657799) (pp_657801_StringLatin1_canEncode D I P657798 F657799 p657800) gNA := by
  refine CtA_ofF hl0 (by decide +kernel) (Nat.le_of_ble_eq_true rfl) ?_
  refine G_iload_n 0 dr_cJ1_canEncode_fc78d_0 rfl ?_
  refine G_sipush 255 dr_cJ1_canEncode_fc78d_1 (by decide +kernel) ?_
  refine G_icmp_gt 11 dr_cJ1_canEncode_fc78d_4 (by decide +kernel) (fun hc657802 => ?_) (fun hc657802 => ?_)
  · have r657803 : 255 < p657800.toInt := gj_ltL hc657802 (show Int32.toInt 255 = 255 by decide)
    have bp657800' : gB p657800 256 65535 := ⟨by omega, by omega⟩
    refine G_iconst 0 dr_cJ1_canEncode_fc78d_11 (by decide +kernel) ?_
    exact G_zretA FieldType.boolean dr_cJ1_canEncode_fc78d_12 rfl rfl (Nat.le_of_ble_eq_true rfl) (Nat.le_of_ble_eq_true rfl) (Or.inl ⟨rfl, rfl, (Nat.le_of_ble_eq_true rfl), (Nat.le_of_ble_eq_true rfl), r657803, (fun R c1 c2 => c1 r657803)⟩)
  · have r657804 : p657800.toInt ≤ 255 := gj_nltL hc657802 (show Int32.toInt 255 = 255 by decide)
    have bp657800' : gB p657800 0 255 := ⟨by omega, by omega⟩
    refine G_iconst 1 dr_cJ1_canEncode_fc78d_7 (by decide +kernel) ?_
    refine G_goto 12 dr_cJ1_canEncode_fc78d_8 (by decide +kernel) ?_
    exact G_zretA FieldType.boolean dr_cJ1_canEncode_fc78d_12 rfl rfl (Nat.le_of_ble_eq_true rfl) (Nat.le_of_ble_eq_true rfl) (Or.inr (⟨rfl, rfl, (Nat.le_of_ble_eq_true rfl), (Nat.le_of_ble_eq_true rfl), r657804, (fun R c1 c2 => c2 r657804)⟩))
/- tr_RAbstractStringBuilder_append: a.0...count, a.0.value.[] -/
def tr_RAbstractStringBuilder_append (a1 : Int32) (a0_count : Int32) (a0_value_v : Nat → Int32) (a0_value_n : Nat) (o1 : Int32) (o2 : Nat → Int32) : Prop := ∀ R : (Int32) → (Nat → Int32) → Prop,
  (∀ (x1 : Int32) (x2 : Int32) (x3 : Int32) (x4 : Nat → Int32), x1.toInt = a0_count.toInt + 1 → tr_RAbstractStringBuilder_ensureCapacityInternal x1 a0_value_n → tr_RStringLatin1_canEncode a1 (1 : Int32) → x2.toInt = a0_count.toInt + 1 → x3 = a1.toInt8.toInt32 → x4 = upd a0_value_v a0_count.toNatClampNeg (vp_nar .byte x3) → R x2 x4) →
  R o1 o2
abbrev ky_657757_AbstractStringBuilder_append : gKey := (cJ5_append_3fe6f, 2, "java/lang/AbstractStringBuilder", (some (FieldType.object "java/lang/AbstractStringBuilder")), [], "append", fun _ _ => True)
def pp_657757_AbstractStringBuilder_append (D : va_G) (I : FieldType → ClassId) (P657746 : List Nat) (F657747 : Nat → va_E) (q657748 : Nat) (q657749 : Nat) (p657750 : Int32) (p657751 : Int32) (p657752 : Int32) (f657753 : Nat → Int32) (n657754 : Nat) : Option Value → va_W → Nat → Nat → Prop := fun r w dc ds => ∃ (F657833 : Nat → va_E) (o657830 : Int32) (f657831 : Nat → Int32), r = some (.ref q657748) ∧ w = va_pl P657746 F657833 ∧ rFr [q657749, q657748] P657746 F657747 F657833 ∧ F657833 q657748 = .inr (1, [.ref q657749, .int 0, .int p657751, .int o657830]) ∧ F657833 q657749 = .inl (I .byte, n657754, .inl f657831) ∧ dc ≤ 0 ∧ ds ≤ 0 ∧ gB o657830 1 16777216 ∧ gF f657831 (-128) 127 ∧ o657830.toInt = p657752.toInt + 1 ∧ tr_RAbstractStringBuilder_append p657750 p657752 f657753 n657754 o657830 f657831
set_option maxRecDepth 100000 in
set_option maxHeartbeats 4000000 in
theorem cp_657757_AbstractStringBuilder_append (l : Launch) (hl0 : l.stackTraces = false) (D : va_G) (I : FieldType → ClassId) (P657746 : List Nat) (F657747 : Nat → va_E) (q657748 : Nat) (q657749 : Nat) (p657750 : Int32) (p657751 : Int32) (p657752 : Int32) (f657753 : Nat → Int32) (n657754 : Nat) (hmq657748 : q657748 ∈ P657746) (hmq657749 : q657749 ∈ P657746) (heq657748 : F657747 q657748 = .inr (1, [.ref q657749, .int 0, .int p657751, .int p657752])) (heq657749 : F657747 q657749 = .inl (I .byte, n657754, .inl f657753)) (bp657750 : gB p657750 0 255) (bp657751 : gB p657751 0 1) (bp657752 : gB p657752 0 16777216) (bf657753 : gF f657753 (-128) 127) (x657755 : p657752.toInt < (n657754 : Int)) (x657756 : ((n657754 : Int) ≤ 16777216)) : CtA (gV D I) l yJ5_append_3fe6f cJ5_append_3fe6f 2 (some (FieldType.object "java/lang/AbstractStringBuilder")) 1 22 0 0 [.ref q657748, .int p657750] (va_pl P657746 F657747) (pp_657757_AbstractStringBuilder_append D I P657746 F657747 q657748 q657749 p657750 p657751 p657752 f657753 n657754) gNA := by
  refine CtA_ofF hl0 (by decide +kernel) (Nat.le_of_ble_eq_true rfl) ?_
  refine G_aload_n 0 dr_cJ5_append_3fe6f_0 rfl ?_
  refine G_aload_n 0 dr_cJ5_append_3fe6f_1 rfl ?_
  refine Gp_get 3 hmq657748 heq657748 dr_cJ5_append_3fe6f_2 (gk_J4 D I) (Nat.le_of_ble_eq_true rfl) wr_7_64 rfl ?_
  refine G_iconst 1 dr_cJ5_append_3fe6f_5 (by decide +kernel) ?_
  refine G_iadd dr_cJ5_append_3fe6f_6 (G_nam fun z657758 hz657758 => ?_)
  have ez657758 : z657758.toInt = p657752.toInt + 1 := by rw [gI_add hz657758 bp657752 (gBl (show Int32.toInt 1 = 1 by decide)) (by decide) (by decide), show Int32.toInt 1 = 1 from by decide]
  have bz657758 : gB z657758 1 16777217 := gB_add (gI_add hz657758 bp657752 (gBl (show Int32.toInt 1 = 1 by decide)) (by decide) (by decide)) bp657752 (gBl (show Int32.toInt 1 = 1 by decide)) (by decide) (by decide)
  refine Gw_callVB (As := [.int z657758]) (gV_ok D I) (cp_657770_AbstractStringBuilder_ensureCapacityInternal l hl0 D I P657746 F657747 q657748 q657749 z657758 p657751 p657752 f657753 n657754 hmq657748 hmq657749 heq657748 heq657749 ⟨by omega, by omega⟩ bp657751 bp657752 bf657753 (by have qa0 : Int32.toInt 0 = 0 := (by decide); omega) (by have qa0 : Int32.toInt 0 = 0 := (by decide); omega)) dr_cJ5_append_3fe6f_7 ⟨wr_8_4, wr_1_19, wr_8_7, by decide, rfl, (Nat.le_of_ble_eq_true rfl), (Nat.le_of_ble_eq_true rfl)⟩ wr_8_6 wr_s_0 hmq657748 heq657748 rfl (show 0 + 0 ≤ 0 by first | omega | decide) (show 0 + 0 ≤ 0 by first | omega | decide) (Nat.le_of_ble_eq_true rfl) (fun r657780 w657781 dc657777 ds657778 hp657779 => ?_) (fun _ _ _ _ _ z => z.elim)
  obtain ⟨rfl, rfl, hdc, hds, ht657782⟩ := hp657779
  change G _ _ _ _ _ _ _ _ _ _ _
  refine G_widen (cs' := 0) (sl' := 0) (by omega) (by omega) ?_
  refine G_aload_n 0 dr_cJ5_append_3fe6f_10 rfl ?_
  refine Gw_callVB (As := []) (gV_ok D I) (cp_657792_AbstractStringBuilder_isLatin1 l hl0 D I P657746 F657747 q657748 q657749 p657751 p657752 f657753 n657754 hmq657748 hmq657749 heq657748 heq657749 bp657751 bp657752 bf657753 (by have qa0 : Int32.toInt 0 = 0 := (by decide); omega)) dr_cJ5_append_3fe6f_11 ⟨wr_8_33, wr_1_19, wr_8_37, by decide, rfl, (Nat.le_of_ble_eq_true rfl), (Nat.le_of_ble_eq_true rfl)⟩ wr_8_34 wr_8_36 hmq657748 heq657748 rfl (show 0 + 0 ≤ 0 by first | omega | decide) (show 0 + 0 ≤ 0 by first | omega | decide) (Nat.le_of_ble_eq_true rfl) (fun r657796 w657797 dc657793 ds657794 hp657795 => ?_) (fun _ _ _ _ _ z => z.elim)
  obtain ⟨rfl, rfl, hdc, hds⟩ := hp657795
  change G _ _ _ _ _ _ _ (.int 1 :: _) _ _ _
  refine G_widen (cs' := 0) (sl' := 0) (by omega) (by omega) ?_
  refine G_if_eq 45 dr_cJ5_append_3fe6f_14 (by decide +kernel) (fun hc => absurd hc (by decide)) (fun _ => ?_)
  refine G_iload_n 1 dr_cJ5_append_3fe6f_17 rfl ?_
  refine Gw_callS (As := [.int p657750]) (gV_ok D I) (cp_657801_StringLatin1_canEncode l hl0 D I P657746 F657747 p657750 (gB_w bp657750 (by decide) (by decide))) dr_cJ5_append_3fe6f_18 ⟨wr_8_38, wr_1_28, wr_8_40, by decide, rfl, (Nat.le_of_ble_eq_true rfl), (Nat.le_of_ble_eq_true rfl)⟩ wr_8_39 (show 0 + 0 ≤ 0 by first | omega | decide) (show 0 + 0 ≤ 0 by first | omega | decide) (Nat.le_of_ble_eq_true rfl) (fun r657808 w657809 dc657805 ds657806 hp657807 => ?_) (fun _ _ _ _ _ z => z.elim)
  rcases hp657807 with ⟨rfl, rfl, hdc, hds, r657810, r657811⟩ | ⟨rfl, rfl, hdc, hds, r657812, r657813⟩
  · exact absurd (show False by omega) not_false
  · change G _ _ _ _ _ _ _ (.int 1 :: _) _ _ _
    refine G_widen (cs' := 0) (sl' := 0) (by omega) (by omega) ?_
    refine G_if_eq 45 dr_cJ5_append_3fe6f_21 (by decide +kernel) (fun hc => absurd hc (by decide)) (fun _ => ?_)
    refine G_aload_n 0 dr_cJ5_append_3fe6f_24 rfl ?_
    refine Gp_get 0 hmq657748 heq657748 dr_cJ5_append_3fe6f_25 (gk_J4 D I) (Nat.le_of_ble_eq_true rfl) wr_7_60 rfl ?_
    refine G_aload_n 0 dr_cJ5_append_3fe6f_28 rfl ?_
    refine G_dup dr_cJ5_append_3fe6f_29 rfl ?_
    refine Gp_get 3 hmq657748 heq657748 dr_cJ5_append_3fe6f_30 (gk_J4 D I) (Nat.le_of_ble_eq_true rfl) wr_7_64 rfl ?_
    refine G_dup_x1 dr_cJ5_append_3fe6f_33 rfl rfl ?_
    refine G_iconst 1 dr_cJ5_append_3fe6f_34 (by decide +kernel) ?_
    refine G_iadd dr_cJ5_append_3fe6f_35 (G_nam fun z657815 hz657815 => ?_)
    have ez657815 : z657815.toInt = p657752.toInt + 1 := by rw [gI_add hz657815 bp657752 (gBl (show Int32.toInt 1 = 1 by decide)) (by decide) (by decide), show Int32.toInt 1 = 1 from by decide]
    have bz657815 : gB z657815 1 16777217 := gB_add (gI_add hz657815 bp657752 (gBl (show Int32.toInt 1 = 1 by decide)) (by decide) (by decide)) bp657752 (gBl (show Int32.toInt 1 = 1 by decide)) (by decide) (by decide)
    refine Gp_put 3 hmq657748 heq657748 dr_cJ5_append_3fe6f_36 (gk_J4 D I) (Nat.le_of_ble_eq_true rfl) wr_7_64 rfl rfl rfl (Nat.le_of_ble_eq_true rfl) (fun F657816 e657817 n657818 => ?_)
    have he657819 : F657816 q657749 = .inl (I .byte, n657754, .inl f657753) := (n657818 q657749 (rn_ao heq657749 heq657748)).trans heq657749
    have he657820 : F657816 q657748 = .inr (1, [.ref q657749, .int 0, .int p657751, .int z657815]) := e657817
    have hfr657821 : rFr [q657748] P657746 F657747 F657816 := rFr_put (rFr_rf (W := []) (P := P657746) (F := F657747)) n657818
    refine G_iload_n 1 dr_cJ5_append_3fe6f_39 rfl ?_
    refine G_i2b dr_cJ5_append_3fe6f_40 (G_nam fun z657822 hz657822 => ?_)
    have bz657822 : gB z657822 (-128) 127 := gB_i2b hz657822
    refine Gp_bast 1 hmq657749 he657819 dr_cJ5_append_3fe6f_41 rfl (gB_inr (by omega) (by omega)) (fun F657823 e657824 n657825 => ?_)
    obtain ⟨f657826, hf657826⟩ : ∃ z, z = upd f657753 p657752.toNatClampNeg (vp_nar .byte z657822) := ⟨_, rfl⟩
    rw [← hf657826] at e657824
    have he657827 : F657823 q657748 = .inr (1, [.ref q657749, .int 0, .int p657751, .int z657815]) := (n657825 q657748 (rn_oa he657820 he657819)).trans he657820
    have he657828 : F657823 q657749 = .inl (I .byte, n657754, .inl f657826) := e657824
    have hfr657829 : rFr [q657749, q657748] P657746 F657747 F657823 := rFr_put hfr657821 n657825
    have bf657826 : gF f657826 (-128) 127 := gF_upd hf657826 bf657753 gB_byte
    refine G_goto 75 dr_cJ5_append_3fe6f_42 (by decide +kernel) ?_
    refine G_aload_n 0 dr_cJ5_append_3fe6f_75 rfl ?_
    exact G_aretA (FieldType.object "java/lang/AbstractStringBuilder") dr_cJ5_append_3fe6f_76 rfl (by first | exact Or.inl ⟨_, rfl⟩ | exact Or.inr ⟨_, rfl⟩) (Or.inr ⟨_, rfl⟩) (Nat.le_of_ble_eq_true rfl) (Nat.le_of_ble_eq_true rfl) ⟨F657823, z657815, f657826, rfl, rfl, hfr657829, he657827, he657828, (Nat.le_of_ble_eq_true rfl), (Nat.le_of_ble_eq_true rfl), ⟨by omega, by omega⟩, bf657826, (by have qa0 : Int32.toInt 0 = 0 := (by decide); omega), (fun R c1 => c1 z657758 z657815 z657822 f657826 ez657758 ht657782 r657813 ez657815 hz657822 hf657826)⟩
/- tr_RStringBuilder_append: a.0...count, a.0.value.[] -/
def tr_RStringBuilder_append (a1 : Int32) (a0_count : Int32) (a0_value_v : Nat → Int32) (a0_value_n : Nat) (o1 : Int32) (o2 : Nat → Int32) : Prop := ∀ R : (Int32) → (Nat → Int32) → Prop,
  (∀ (x1 : Int32) (x2 : Nat → Int32), gB x1 1 16777216 → tr_RAbstractStringBuilder_append a1 a0_count a0_value_v a0_value_n x1 x2 → R x1 x2) →
  R o1 o2
abbrev ky_657745_StringBuilder_append : gKey := (cJ4_append_cf468, 2, "java/lang/StringBuilder", (some (FieldType.object "java/lang/StringBuilder")), [], "append", fun _ _ => True)
def pp_657745_StringBuilder_append (D : va_G) (I : FieldType → ClassId) (P657734 : List Nat) (F657735 : Nat → va_E) (q657736 : Nat) (q657737 : Nat) (p657738 : Int32) (p657739 : Int32) (p657740 : Int32) (f657741 : Nat → Int32) (n657742 : Nat) : Option Value → va_W → Nat → Nat → Prop := fun r w dc ds => ∃ (F657852 : Nat → va_E) (o657849 : Int32) (f657850 : Nat → Int32), r = some (.ref q657736) ∧ w = va_pl P657734 F657852 ∧ rFr [q657737, q657736] P657734 F657735 F657852 ∧ F657852 q657736 = .inr (1, [.ref q657737, .int 0, .int p657739, .int o657849]) ∧ F657852 q657737 = .inl (I .byte, n657742, .inl f657850) ∧ dc ≤ 0 ∧ ds ≤ 0 ∧ gB o657849 1 16777216 ∧ gF f657850 (-128) 127 ∧ o657849.toInt = p657740.toInt + 1 ∧ tr_RStringBuilder_append p657738 p657740 f657741 n657742 o657849 f657850
set_option maxRecDepth 100000 in
set_option maxHeartbeats 4000000 in
theorem cp_657745_StringBuilder_append (l : Launch) (hl0 : l.stackTraces = false) (D : va_G) (I : FieldType → ClassId) (P657734 : List Nat) (F657735 : Nat → va_E) (q657736 : Nat) (q657737 : Nat) (p657738 : Int32) (p657739 : Int32) (p657740 : Int32) (f657741 : Nat → Int32) (n657742 : Nat) (hmq657736 : q657736 ∈ P657734) (hmq657737 : q657737 ∈ P657734) (heq657736 : F657735 q657736 = .inr (1, [.ref q657737, .int 0, .int p657739, .int p657740])) (heq657737 : F657735 q657737 = .inl (I .byte, n657742, .inl f657741)) (bp657738 : gB p657738 0 255) (bp657739 : gB p657739 0 1) (bp657740 : gB p657740 0 16777216) (bf657741 : gF f657741 (-128) 127) (x657743 : p657740.toInt < (n657742 : Int)) (x657744 : ((n657742 : Int) ≤ 16777216)) : CtA (gV D I) l yJ4_append_cf468 cJ4_append_cf468 2 (some (FieldType.object "java/lang/StringBuilder")) 2 43 0 0 [.ref q657736, .int p657738] (va_pl P657734 F657735) (pp_657745_StringBuilder_append D I P657734 F657735 q657736 q657737 p657738 p657739 p657740 f657741 n657742) gNA := by
  refine CtA_ofF hl0 (by decide +kernel) (Nat.le_of_ble_eq_true rfl) ?_
  refine G_aload_n 0 dr_cJ4_append_cf468_0 rfl ?_
  refine G_iload_n 1 dr_cJ4_append_cf468_1 rfl ?_
  refine Gw_callSU (As := [.int p657738]) (gV_ok D I) (cp_657757_AbstractStringBuilder_append l hl0 D I P657734 F657735 q657736 q657737 p657738 p657739 p657740 f657741 n657742 hmq657736 hmq657737 heq657736 heq657737 bp657738 bp657739 bp657740 bf657741 (by have qa0 : Int32.toInt 0 = 0 := (by decide); omega) (by have qa0 : Int32.toInt 0 = 0 := (by decide); omega)) dr_cJ4_append_cf468_2 ⟨wr_8_1, wr_1_19, wr_8_3, by decide, rfl, (Nat.le_of_ble_eq_true rfl), (Nat.le_of_ble_eq_true rfl)⟩ wr_8_2 wr_11_224 wr_7_73 wr_7_44 (by decide) hmq657736 heq657736 rfl (show 0 + 0 ≤ 0 by first | omega | decide) (show 0 + 0 ≤ 0 by first | omega | decide) (Nat.le_of_ble_eq_true rfl) (fun r657837 w657838 dc657834 ds657835 hp657836 => ?_)
  obtain ⟨F657843, o657839, f657840, rfl, rfl, hfr657845, he657846, he657847, hdc, hds, bo657839, bf657840, x657841, ht657842⟩ := hp657836
  have hfr657848 : rFr [q657737, q657736] P657734 F657735 F657843 := rFr_call (rSub_rf (P := P657734)) (rFr_rf (W := []) (P := P657734) (F := F657735)) hfr657845 (fun b hb hn => ⟨nm_n, (nm_c (fun e => hn (e ▸ List.mem_cons_self)) (nm_c (fun e => hn (e ▸ (List.mem_cons_of_mem _ List.mem_cons_self))) nm_n))⟩)
  change G _ _ _ _ _ _ _ (.ref q657736 :: _) _ _ _
  refine G_widen (cs' := 0) (sl' := 0) (by omega) (by omega) ?_
  refine G_pop dr_cJ4_append_cf468_5 rfl ?_
  refine G_aload_n 0 dr_cJ4_append_cf468_6 rfl ?_
  exact G_aretA (FieldType.object "java/lang/StringBuilder") dr_cJ4_append_cf468_7 rfl (by first | exact Or.inl ⟨_, rfl⟩ | exact Or.inr ⟨_, rfl⟩) (Or.inr ⟨_, rfl⟩) (Nat.le_of_ble_eq_true rfl) (Nat.le_of_ble_eq_true rfl) ⟨F657843, o657839, f657840, rfl, rfl, hfr657848, he657846, he657847, (Nat.le_of_ble_eq_true rfl), (Nat.le_of_ble_eq_true rfl), bo657839, bf657840, (by have qa0 : Int32.toInt 0 = 0 := (by decide); omega), (fun R c1 => c1 o657839 f657840 bo657839 ht657842)⟩
/- tr_RAbstractStringBuilder_newCapacity: result -/
def tr_RAbstractStringBuilder_newCapacity (a1 : Int32) (a0_value_n : Nat) (o1 : Int32) : Prop := ∀ R : (Int32) → Prop,
  (∀ (x1 : Int32) (x2 : Int32) (x3 : Int32) (x4 : Int32) (x5 : Int32) (x6 : Int32) (x7 : Int32), x1.toInt = (a0_value_n : Nat) → x2.toInt = a1.toInt * 1 → x3.toInt = x2.toInt - x1.toInt → x4.toInt = 2 * 1 → x5.toInt = x1.toInt + x4.toInt → gB x6 1 33554432 → tr_RArraysSupport_newLength x1 x3 x5 x6 → x7.toInt = x6.toInt / 1 → R x7) →
  R o1
abbrev ky_657910_AbstractStringBuilder_newCapacity : gKey := (cJ5_newCapacity_0f7a4, 6, "java/lang/AbstractStringBuilder", (some FieldType.int), [], "newCapacity", fun _ _ => True)
def pp_657910_AbstractStringBuilder_newCapacity (D : va_G) (I : FieldType → ClassId) (P657898 : List Nat) (F657899 : Nat → va_E) (q657900 : Nat) (q657901 : Nat) (p657902 : Int32) (p657903 : Int32) (p657904 : Int32) (f657905 : Nat → Int32) (n657906 : Nat) : Option Value → va_W → Nat → Nat → Prop := fun r w dc ds => ∃ (o657925 : Int32), r = some (.int o657925) ∧ w = va_pl P657898 F657899 ∧ dc ≤ 0 ∧ ds ≤ 0 ∧ gB o657925 1 33554432 ∧ p657902.toInt ≤ o657925.toInt ∧ 2 * (n657906 : Int) + 2 ≤ o657925.toInt ∧ (o657925.toInt ≤ 2 * (n657906 : Int) + 2 ∨ o657925.toInt ≤ p657902.toInt) ∧ tr_RAbstractStringBuilder_newCapacity p657902 n657906 o657925
set_option maxRecDepth 100000 in
set_option maxHeartbeats 4000000 in
theorem cp_657910_AbstractStringBuilder_newCapacity (l : Launch) (hl0 : l.stackTraces = false) (D : va_G) (I : FieldType → ClassId) (P657898 : List Nat) (F657899 : Nat → va_E) (q657900 : Nat) (q657901 : Nat) (p657902 : Int32) (p657903 : Int32) (p657904 : Int32) (f657905 : Nat → Int32) (n657906 : Nat) (hmq657900 : q657900 ∈ P657898) (hmq657901 : q657901 ∈ P657898) (heq657900 : F657899 q657900 = .inr (1, [.ref q657901, .int 0, .int p657903, .int p657904])) (heq657901 : F657899 q657901 = .inl (I .byte, n657906, .inl f657905)) (bp657902 : gB p657902 0 8388608) (bp657903 : gB p657903 0 1) (bp657904 : gB p657904 0 16777216) (bf657905 : gF f657905 (-128) 127) (x657907 : (n657906 : Int) < p657902.toInt) (x657908 : (n657906 : Int) ≤ 8388608) (x657909 : ((n657906 : Int) ≤ 16777216)) : CtA (gV D I) l yJ5_newCapacity_0f7a4 cJ5_newCapacity_0f7a4 6 (some FieldType.int) 2 37 0 0 [.ref q657900, .int p657902] (va_pl P657898 F657899) (pp_657910_AbstractStringBuilder_newCapacity D I P657898 F657899 q657900 q657901 p657902 p657903 p657904 f657905 n657906) gNA := by
  refine CtA_ofF hl0 (by decide +kernel) (Nat.le_of_ble_eq_true rfl) ?_
  refine G_aload_n 0 dr_cJ5_newCapacity_0f7a4_0 rfl ?_
  refine Gp_get 0 hmq657900 heq657900 dr_cJ5_newCapacity_0f7a4_1 (gk_J4 D I) (Nat.le_of_ble_eq_true rfl) wr_7_60 rfl ?_
  refine Gp_alen (Int32.ofNat n657906) 1 hmq657901 heq657901 dr_cJ5_newCapacity_0f7a4_4 rfl rfl (G_nam fun z657911 hz657911 => ?_)
  have ez657911 : z657911.toInt = (n657906 : Nat) := gI_ofM hz657911 (by omega)
  have bz657911 : gB z657911 0 16777216 := ⟨by omega, by omega⟩
  refine G_istore_n (L' := [(2, .int z657911), (0, .ref q657900), (1, .int p657902)]) dr_cJ5_newCapacity_0f7a4_5 (Nat.le_of_ble_eq_true rfl) rfl ?_
  refine G_iload_n 2 dr_cJ5_newCapacity_0f7a4_6 rfl ?_
  refine G_aload_n 1 dr_cJ5_newCapacity_0f7a4_7 rfl ?_
  refine Gp_get 1 hmq657900 heq657900 dr_cJ5_newCapacity_0f7a4_8 (gk_J4 D I) (Nat.le_of_ble_eq_true rfl) wr_7_61 rfl ?_
  refine G_ishl dr_cJ5_newCapacity_0f7a4_11 (G_nam fun z657912 hz657912 => ?_)
  have ez657912 : z657912.toInt = p657902.toInt * 1 := gI_shl (k := 0) hz657912 (by decide) bp657902 (by decide) (by decide)
  have bz657912 : gB z657912 0 8388608 := ⟨by omega, by omega⟩
  refine G_istore_n (L' := [(3, .int z657912), (2, .int z657911), (0, .ref q657900), (1, .int p657902)]) dr_cJ5_newCapacity_0f7a4_12 (Nat.le_of_ble_eq_true rfl) rfl ?_
  refine G_iload_n 0 dr_cJ5_newCapacity_0f7a4_13 rfl ?_
  refine G_iload_n 1 dr_cJ5_newCapacity_0f7a4_14 rfl ?_
  refine G_isub dr_cJ5_newCapacity_0f7a4_15 (G_nam fun z657913 hz657913 => ?_)
  have ez657913 : z657913.toInt = z657912.toInt - z657911.toInt := by rw [gI_sub hz657913 bz657912 bz657911 (by decide) (by decide)]
  have bz657913 : gB z657913 (-16777216) 8388608 := gB_sub (gI_sub hz657913 bz657912 bz657911 (by decide) (by decide)) bz657912 bz657911 (by decide) (by decide)
  refine G_istore (L' := [(4, .int z657913), (3, .int z657912), (2, .int z657911), (0, .ref q657900), (1, .int p657902)]) dr_cJ5_newCapacity_0f7a4_16 (Nat.le_of_ble_eq_true rfl) rfl ?_
  refine G_iload_n 2 dr_cJ5_newCapacity_0f7a4_18 rfl ?_
  refine G_iload 0 dr_cJ5_newCapacity_0f7a4_19 rfl ?_
  refine G_iload_n 2 dr_cJ5_newCapacity_0f7a4_21 rfl ?_
  refine G_iconst 2 dr_cJ5_newCapacity_0f7a4_22 (by decide +kernel) ?_
  refine G_aload_n 3 dr_cJ5_newCapacity_0f7a4_23 rfl ?_
  refine Gp_get 1 hmq657900 heq657900 dr_cJ5_newCapacity_0f7a4_24 (gk_J4 D I) (Nat.le_of_ble_eq_true rfl) wr_7_61 rfl ?_
  refine G_ishl dr_cJ5_newCapacity_0f7a4_27 (G_nam fun z657914 hz657914 => ?_)
  have ez657914 : z657914.toInt = 2 * 1 := gI_shl (k := 0) hz657914 (by decide) (gBl (show Int32.toInt 2 = 2 by decide)) (by decide) (by decide)
  have bz657914 : gB z657914 2 2 := ⟨by omega, by omega⟩
  refine G_iadd dr_cJ5_newCapacity_0f7a4_28 (G_nam fun z657915 hz657915 => ?_)
  have ez657915 : z657915.toInt = z657911.toInt + z657914.toInt := by rw [gI_add hz657915 bz657911 bz657914 (by decide) (by decide)]
  have bz657915 : gB z657915 2 16777218 := gB_add (gI_add hz657915 bz657911 bz657914 (by decide) (by decide)) bz657911 bz657914 (by decide) (by decide)
  refine Gw_callS (As := [.int z657911, .int z657913, .int z657915]) (gV_ok D I) (cp_355_ArraysSupport_newLength l hl0 D I P657898 F657899 z657911 z657913 z657915 bz657911 ⟨by omega, by omega⟩ ⟨by omega, by omega⟩) dr_cJ5_newCapacity_0f7a4_29 ⟨wr_8_12, wr_1_33, wr_8_14, by decide, rfl, (Nat.le_of_ble_eq_true rfl), (Nat.le_of_ble_eq_true rfl)⟩ wr_8_13 (show 0 + 0 ≤ 0 by first | omega | decide) (show 0 + 0 ≤ 0 by first | omega | decide) (Nat.le_of_ble_eq_true rfl) (fun r657919 w657920 dc657916 ds657917 hp657918 => ?_) (fun _ _ _ _ _ z => z.elim)
  obtain ⟨o657921, rfl, rfl, hdc, hds, bo657921, x657922, ht657923⟩ := hp657918
  change G _ _ _ _ _ _ _ (.int o657921 :: _) _ _ _
  refine G_widen (cs' := 0) (sl' := 0) (by omega) (by omega) ?_
  refine G_istore (L' := [(5, .int o657921), (4, .int z657913), (3, .int z657912), (2, .int z657911), (0, .ref q657900), (1, .int p657902)]) dr_cJ5_newCapacity_0f7a4_32 (Nat.le_of_ble_eq_true rfl) rfl ?_
  refine G_iload 0 dr_cJ5_newCapacity_0f7a4_34 rfl ?_
  refine G_ldc 2147483647 dr_cJ5_newCapacity_0f7a4_36 wr_8_20 ?_
  refine G_icmp_ne 51 dr_cJ5_newCapacity_0f7a4_38 (by decide +kernel) (fun _ => ?_) (fun hc => absurd (show False by have := gj_eq hc (show Int32.toInt 2147483647 = 2147483647 by decide); omega) not_false)
  refine G_iload 0 dr_cJ5_newCapacity_0f7a4_51 rfl ?_
  refine G_aload_n 4 dr_cJ5_newCapacity_0f7a4_53 rfl ?_
  refine Gp_get 1 hmq657900 heq657900 dr_cJ5_newCapacity_0f7a4_54 (gk_J4 D I) (Nat.le_of_ble_eq_true rfl) wr_7_61 rfl ?_
  refine G_ishr dr_cJ5_newCapacity_0f7a4_57 (G_nam fun z657924 hz657924 => ?_)
  have ez657924 : z657924.toInt = o657921.toInt / 1 := gI_shr (k := 0) hz657924 (by decide)
  have bz657924 : gB z657924 1 33554432 := ⟨by omega, by omega⟩
  exact G_iretA dr_cJ5_newCapacity_0f7a4_58 rfl (Nat.le_of_ble_eq_true rfl) (Nat.le_of_ble_eq_true rfl) ⟨z657924, rfl, rfl, (Nat.le_of_ble_eq_true rfl), (Nat.le_of_ble_eq_true rfl), bz657924, (by have qa0 : Int32.toInt 0 = 0 := (by decide); omega), (by have qa0 : Int32.toInt 0 = 0 := (by decide); omega), (by have qa0 : Int32.toInt 0 = 0 := (by decide); omega), (fun R c1 => c1 z657911 z657912 z657913 z657914 z657915 o657921 z657924 ez657911 ez657912 ez657913 ez657914 ez657915 bo657921 ht657923 ez657924)⟩
/- tr_RArrays_copyOf3: a.2.[] -/
def tr_RArrays_copyOf3 (a1 : Int32) (a0_v : Nat → Int32) (a0_n : Nat) (o1 : Nat → Int32) : Prop := ∀ R : (Nat → Int32) → Prop,
  (∀ (x1 : Int32) (x2 : Int32) (x3 : Int32) (x4 : Nat → Int32), x1.toInt = (a0_n : Nat) → a1.toInt ≠ x1.toInt → x2.toInt = (a0_n : Nat) → (x2.toInt ≥ x3.toInt ∧ a1.toInt ≥ x3.toInt ∧ (x3.toInt = x2.toInt ∨ x3.toInt = a1.toInt)) → (x4 = va_cpy a0_v (fun _ => 0) (0 : Int32).toNatClampNeg (0 : Int32).toNatClampNeg x3.toNatClampNeg) → R x4) →
  R o1
abbrev ky_657945_Arrays_copyOf : gKey := (cJ7_copyOf_9075b, 3, "java/util/Arrays", (some (FieldType.array FieldType.byte)), [], "copyOf", fun _ _ => True)
def pp_657945_Arrays_copyOf (D : va_G) (I : FieldType → ClassId) (P657937 : List Nat) (F657938 : Nat → va_E) (q657939 : Nat) (p657940 : Int32) (f657941 : Nat → Int32) (n657942 : Nat) : Option Value → va_W → Nat → Nat → Prop := fun r w dc ds => ∃ (P657975 : List Nat) (F657976 : Nat → va_E) (q657973 : Nat) (f657974 : Nat → Int32), r = some (.ref q657973) ∧ w = va_pl P657975 F657976 ∧ rSub P657937 P657975 ∧ rFr [] P657937 F657938 F657976 ∧ F657976 q657939 = .inl (I .byte, n657942, .inl f657941) ∧ F657976 q657973 = .inl (I .byte, p657940.toInt.toNat, .inl f657974) ∧ q657973 ∈ P657975 ∧ q657973 ∉ P657937 ∧ dc ≤ 1 ∧ ds ≤ p657940.toInt.toNat ∧ gF f657974 (-128) 127 ∧ tr_RArrays_copyOf3 p657940 f657941 n657942 f657974
set_option maxRecDepth 100000 in
set_option maxHeartbeats 4000000 in
theorem cp_657945_Arrays_copyOf (l : Launch) (hl0 : l.stackTraces = false) (D : va_G) (I : FieldType → ClassId) (P657937 : List Nat) (F657938 : Nat → va_E) (q657939 : Nat) (p657940 : Int32) (f657941 : Nat → Int32) (n657942 : Nat) (hmq657939 : q657939 ∈ P657937) (heq657939 : F657938 q657939 = .inl (I .byte, n657942, .inl f657941)) (bp657940 : gB p657940 0 33554432) (bf657941 : gF f657941 (-128) 127) (x657943 : (n657942 : Int) < p657940.toInt) (x657944 : ((n657942 : Int) ≤ 16777216)) : CtA (gV D I) l yJ7_copyOf_9075b cJ7_copyOf_9075b 3 (some (FieldType.array FieldType.byte)) 1 18 1 p657940.toInt.toNat [.ref q657939, .int p657940] (va_pl P657937 F657938) (pp_657945_Arrays_copyOf D I P657937 F657938 q657939 p657940 f657941 n657942) gNA := by
  refine CtA_ofF hl0 (by decide +kernel) (Nat.le_of_ble_eq_true rfl) ?_
  refine G_iload_n 1 dr_cJ7_copyOf_9075b_0 rfl ?_
  refine G_aload_n 0 dr_cJ7_copyOf_9075b_1 rfl ?_
  refine Gp_alen (Int32.ofNat n657942) 1 hmq657939 heq657939 dr_cJ7_copyOf_9075b_2 rfl rfl (G_nam fun z657946 hz657946 => ?_)
  have ez657946 : z657946.toInt = (n657942 : Nat) := gI_ofM hz657946 (by omega)
  have bz657946 : gB z657946 0 16777216 := ⟨by omega, by omega⟩
  refine G_icmp_ne 14 dr_cJ7_copyOf_9075b_3 (by decide +kernel) (fun hc657947 => ?_) (fun hc => absurd (show False by have := gC_eq hc; omega) not_false)
  have r657949 : p657940.toInt ≠ z657946.toInt := gC_ne hc657947
  refine G_iload_n 1 dr_cJ7_copyOf_9075b_14 rfl ?_
  refine G_newa 1 (p657940.toInt.toNat, .inl (fun _ => 0)) dr_cJ7_copyOf_9075b_15 rfl rfl (by intro C h; cases h) wr_1_66 (fun _ => ga_byte _ _) (g_n0 (by omega)) rfl (show p657940.toInt.toNat * 1 ≤ 536870912 by omega) (show 0 + 1 ≤ 1 by first | omega | decide) (show 0 + p657940.toInt.toNat ≤ p657940.toInt.toNat by first | omega | decide) (fun q657950 => Gp_in (fun P657951 F657952 hq657953 hP657954 e657955 n657956 => ?_))
  refine G_widen (cs' := 1) (sl' := p657940.toInt.toNat) (by omega) (by omega) ?_
  have he657957 : F657952 q657939 = .inl (I .byte, n657942, .inl f657941) := (n657956 q657939 (fun h => hq657953 (h ▸ hmq657939))).trans heq657939
  have he657958 : F657952 q657950 = .inl (I .byte, p657940.toInt.toNat, .inl (fun _ => 0)) := e657955
  have hm657959 : q657939 ∈ P657951 := (hP657954 q657939).mpr (Or.inl hmq657939)
  have hm657960 : q657950 ∈ P657951 := (hP657954 q657950).mpr (Or.inr rfl)
  have hq657961 : q657950 ∉ P657937 := fun z => hq657953 ((rSub_rf (P := P657937)) q657950 z)
  have hfr657962 : rFr [] P657937 F657938 F657952 := rFr_new (rSub_rf (P := P657937)) hq657953 (rFr_rf (W := []) (P := P657937) (F := F657938)) n657956
  have hsb657963 : rSub P657937 P657951 := rSub_new (rSub_rf (P := P657937)) hP657954
  refine G_astore_n (L' := [(2, .ref q657950), (0, .ref q657939), (1, .int p657940)]) dr_cJ7_copyOf_9075b_17 (Nat.le_of_ble_eq_true rfl) rfl ?_
  refine G_aload_n 1 dr_cJ7_copyOf_9075b_18 rfl ?_
  refine G_iconst 0 dr_cJ7_copyOf_9075b_19 (by decide +kernel) ?_
  refine G_aload_n 0 dr_cJ7_copyOf_9075b_20 rfl ?_
  refine G_iconst 0 dr_cJ7_copyOf_9075b_21 (by decide +kernel) ?_
  refine G_aload_n 1 dr_cJ7_copyOf_9075b_22 rfl ?_
  refine Gp_alen (Int32.ofNat n657942) 1 hm657959 he657957 dr_cJ7_copyOf_9075b_23 rfl rfl (G_nam fun z657964 hz657964 => ?_)
  have ez657964 : z657964.toInt = (n657942 : Nat) := gI_ofM hz657964 (by omega)
  have bz657964 : gB z657964 0 16777216 := ⟨by omega, by omega⟩
  refine G_iload_n 2 dr_cJ7_copyOf_9075b_24 rfl ?_
  refine G_mmin dr_cJ7_copyOf_9075b_25 wr_8_31 wr_3_227 wr_1_6 wr_3_228 (Nat.le_of_ble_eq_true rfl) (Nat.le_of_ble_eq_true rfl) (show 1 ≤ 1 by first | omega | decide) (show p657940.toInt.toNat ≤ p657940.toInt.toNat by first | omega | decide) (G_nam fun z657965 hz657965 => ?_)
  have ez657965 : z657964.toInt ≥ z657965.toInt ∧ p657940.toInt ≥ z657965.toInt ∧ (z657965.toInt = z657964.toInt ∨ z657965.toInt = p657940.toInt) := by have := gI_min hz657965; omega
  have bz657965 : gB z657965 0 16777216 := ⟨by omega, by omega⟩
  refine Gp_copyp 1 hm657959 hm657960 he657957 he657958 dr_cJ7_copyOf_9075b_28 wr_8_32 wr_5_113 wr_5_112 wr_1_34 rfl rfl (fun j => gT_byte (bf657941 j)) (by decide) (by decide) (by omega) (by have qa0 : Int32.toInt 0 = 0 := (by decide); omega) (by have qa0 : Int32.toInt 0 = 0 := (by decide); omega) (Nat.le_of_ble_eq_true rfl) (Nat.le_of_ble_eq_true rfl) (fun F657966 e657967 n657968 => ?_)
  obtain ⟨f657969, hf657969⟩ : ∃ z, z = va_cpy f657941 (fun _ => 0) (0 : Int32).toNatClampNeg (0 : Int32).toNatClampNeg z657965.toNatClampNeg := ⟨_, rfl⟩
  rw [← hf657969] at e657967
  have bf657969 : gF f657969 (-128) 127 := gF_cpy hf657969 bf657941 (gF_w gF_0 (by decide) (by decide))
  have he657970 : F657966 q657939 = .inl (I .byte, n657942, .inl f657941) := (n657968 q657939 (fun h => hq657961 (h ▸ hmq657939))).trans he657957
  have he657971 : F657966 q657950 = .inl (I .byte, p657940.toInt.toNat, .inl f657969) := e657967
  have hfr657972 : rFr [] P657937 F657938 F657966 := rFr_newp hq657961 hfr657962 n657968
  refine G_aload_n 0 dr_cJ7_copyOf_9075b_31 rfl ?_
  exact G_aretA (FieldType.array FieldType.byte) dr_cJ7_copyOf_9075b_32 rfl (by first | exact Or.inl ⟨_, rfl⟩ | exact Or.inr ⟨_, rfl⟩) (Or.inr ⟨_, rfl⟩) (Nat.le_of_ble_eq_true rfl) (show p657940.toInt.toNat ≤ p657940.toInt.toNat by omega) ⟨P657951, F657966, q657950, f657969, rfl, rfl, hsb657963, hfr657972, he657970, he657971, hm657960, hq657961, (Nat.le_of_ble_eq_true rfl), (by omega), bf657969, (fun R c1 => c1 z657946 z657964 z657965 f657969 ez657946 r657949 ez657964 ez657965 hf657969)⟩
/- tr_RAbstractStringBuilder_ensureCapacityInternal2: a.0.value.#, a.0.value.[] -/
def tr_RAbstractStringBuilder_ensureCapacityInternal2 (a1 : Int32) (a0_value_v : Nat → Int32) (a0_value_n : Nat) (o1 : Nat) (o2 : Nat → Int32) : Prop := ∀ R : (Nat) → (Nat → Int32) → Prop,
  (∀ (x1 : Int32) (x2 : Int32) (x3 : Int32), x1.toInt = (a0_value_n : Nat) → x2.toInt = x1.toInt / 1 → x3.toInt = a1.toInt - x2.toInt → x3.toInt ≤ 0 → R a0_value_n a0_value_v) →
  (∀ (x1 : Int32) (x2 : Int32) (x3 : Int32) (x4 : Int32) (x5 : Int32) (x6 : Nat → Int32), x1.toInt = (a0_value_n : Nat) → x2.toInt = x1.toInt / 1 → x3.toInt = a1.toInt - x2.toInt → 0 < x3.toInt → gB x4 1 33554432 → tr_RAbstractStringBuilder_newCapacity a1 a0_value_n x4 → x5.toInt = x4.toInt * 1 → tr_RArrays_copyOf3 x5 a0_value_v a0_value_n x6 → R x5.toInt.toNat x6) →
  R o1 o2
abbrev ky_657891_AbstractStringBuilder_ensureCapacityInternal : gKey := (cJ5_ensureCapacityInternal_d00df, 3, "java/lang/AbstractStringBuilder", none, [], "ensureCapacityInternal", fun _ _ => True)
def pp_657891_AbstractStringBuilder_ensureCapacityInternal (D : va_G) (I : FieldType → ClassId) (P657880 : List Nat) (F657881 : Nat → va_E) (q657882 : Nat) (q657883 : Nat) (p657884 : Int32) (p657885 : Int32) (p657886 : Int32) (f657887 : Nat → Int32) (n657888 : Nat) : Option Value → va_W → Nat → Nat → Prop := fun r w dc ds => ∃ (P658009 : List Nat) (F658010 : Nat → va_E) (q658006 : Nat) (n658007 : Nat) (f658008 : Nat → Int32), r = none ∧ w = va_pl P658009 F658010 ∧ rSub P657880 P658009 ∧ rFr [q657882] P657880 F657881 F658010 ∧ F658010 q657882 = .inr (1, [.ref q658006, .int 0, .int p657885, .int p657886]) ∧ F658010 q658006 = .inl (I .byte, n658007, .inl f658008) ∧ q658006 ∈ P658009 ∧ (q658006 = q657883 ∨ q658006 ∉ P657880) ∧ dc ≤ 1 ∧ ds ≤ 2 * (n658007 - n657888) ∧ gF f658008 (-128) 127 ∧ p657884.toInt ≤ (n658007 : Int) ∧ (n657888 : Int) ≤ (n658007 : Int) ∧ ((n658007 : Int) = (n657888 : Int) ∨ (n657888 : Int) < p657884.toInt) ∧ ((n658007 : Int) ≤ 2 * (n657888 : Int) + 2 ∨ (n658007 : Int) ≤ p657884.toInt) ∧ tr_RAbstractStringBuilder_ensureCapacityInternal2 p657884 f657887 n657888 n658007 f658008
set_option maxRecDepth 100000 in
set_option maxHeartbeats 4000000 in
theorem cp_657891_AbstractStringBuilder_ensureCapacityInternal (l : Launch) (hl0 : l.stackTraces = false) (D : va_G) (I : FieldType → ClassId) (P657880 : List Nat) (F657881 : Nat → va_E) (q657882 : Nat) (q657883 : Nat) (p657884 : Int32) (p657885 : Int32) (p657886 : Int32) (f657887 : Nat → Int32) (n657888 : Nat) (hmq657882 : q657882 ∈ P657880) (hmq657883 : q657883 ∈ P657880) (heq657882 : F657881 q657882 = .inr (1, [.ref q657883, .int 0, .int p657885, .int p657886])) (heq657883 : F657881 q657883 = .inl (I .byte, n657888, .inl f657887)) (bp657884 : gB p657884 0 8388608) (bp657885 : gB p657885 0 1) (bp657886 : gB p657886 0 16777216) (bf657887 : gF f657887 (-128) 127) (x657889 : (n657888 : Int) ≤ 8388608) (x657890 : ((n657888 : Int) ≤ 16777216)) : CtA (gV D I) l yJ5_ensureCapacityInternal_d00df cJ5_ensureCapacityInternal_d00df 3 none 3 62 1 (2 * n657888 + 2 + p657884.toInt.toNat) [.ref q657882, .int p657884] (va_pl P657880 F657881) (pp_657891_AbstractStringBuilder_ensureCapacityInternal D I P657880 F657881 q657882 q657883 p657884 p657885 p657886 f657887 n657888) gNA := by
  refine CtA_ofF hl0 (by decide +kernel) (Nat.le_of_ble_eq_true rfl) ?_
  refine G_aload_n 0 dr_cJ5_ensureCapacityInternal_d00df_0 rfl ?_
  refine Gp_get 0 hmq657882 heq657882 dr_cJ5_ensureCapacityInternal_d00df_1 (gk_J4 D I) (Nat.le_of_ble_eq_true rfl) wr_7_60 rfl ?_
  refine Gp_alen (Int32.ofNat n657888) 1 hmq657883 heq657883 dr_cJ5_ensureCapacityInternal_d00df_4 rfl rfl (G_nam fun z657892 hz657892 => ?_)
  have ez657892 : z657892.toInt = (n657888 : Nat) := gI_ofM hz657892 (by omega)
  have bz657892 : gB z657892 0 16777216 := ⟨by omega, by omega⟩
  refine G_aload_n 0 dr_cJ5_ensureCapacityInternal_d00df_5 rfl ?_
  refine Gp_get 1 hmq657882 heq657882 dr_cJ5_ensureCapacityInternal_d00df_6 (gk_J4 D I) (Nat.le_of_ble_eq_true rfl) wr_7_61 rfl ?_
  refine G_ishr dr_cJ5_ensureCapacityInternal_d00df_9 (G_nam fun z657893 hz657893 => ?_)
  have ez657893 : z657893.toInt = z657892.toInt / 1 := gI_shr (k := 0) hz657893 (by decide)
  have bz657893 : gB z657893 0 16777216 := ⟨by omega, by omega⟩
  refine G_istore_n (L' := [(2, .int z657893), (0, .ref q657882), (1, .int p657884)]) dr_cJ5_ensureCapacityInternal_d00df_10 (Nat.le_of_ble_eq_true rfl) rfl ?_
  refine G_iload_n 2 dr_cJ5_ensureCapacityInternal_d00df_11 rfl ?_
  refine G_iload_n 0 dr_cJ5_ensureCapacityInternal_d00df_12 rfl ?_
  refine G_isub dr_cJ5_ensureCapacityInternal_d00df_13 (G_nam fun z657894 hz657894 => ?_)
  have ez657894 : z657894.toInt = p657884.toInt - z657893.toInt := by rw [gI_sub hz657894 bp657884 bz657893 (by decide) (by decide)]
  have bz657894 : gB z657894 (-16777216) 8388608 := gB_sub (gI_sub hz657894 bp657884 bz657893 (by decide) (by decide)) bp657884 bz657893 (by decide) (by decide)
  refine G_if_le 38 dr_cJ5_ensureCapacityInternal_d00df_14 (by decide +kernel) (fun hc657895 => ?_) (fun hc657895 => ?_)
  · have r657896 : z657894.toInt ≤ 0 := gj_le hc657895 (show Int32.toInt 0 = 0 by decide)
    have bz657894' : gB z657894 (-16777216) 0 := ⟨by omega, by omega⟩
    exact G_vretA dr_cJ5_ensureCapacityInternal_d00df_38 rfl (Nat.le_of_ble_eq_true rfl) (Nat.le_of_ble_eq_true rfl) ⟨P657880, F657881, q657883, n657888, f657887, rfl, rfl, (rSub_rf (P := P657880)), (rFr_v (rFr_rf (W := []) (P := P657880) (F := F657881)) (fun b hn => nm_n)), heq657882, heq657883, hmq657883, (Or.inl rfl), (Nat.le_of_ble_eq_true rfl), (by omega), bf657887, (by have qa0 : Int32.toInt 0 = 0 := (by decide); omega), (by have qa0 : Int32.toInt 0 = 0 := (by decide); omega), (by have qa0 : Int32.toInt 0 = 0 := (by decide); omega), (by have qa0 : Int32.toInt 0 = 0 := (by decide); omega), (fun R c1 c2 => c1 z657892 z657893 z657894 ez657892 ez657893 ez657894 r657896)⟩
  · have r657897 : 0 < z657894.toInt := gj_nle hc657895 (show Int32.toInt 0 = 0 by decide)
    have bz657894' : gB z657894 1 8388608 := ⟨by omega, by omega⟩
    refine G_aload_n 1 dr_cJ5_ensureCapacityInternal_d00df_17 rfl ?_
    refine G_aload_n 1 dr_cJ5_ensureCapacityInternal_d00df_18 rfl ?_
    refine Gp_get 0 hmq657882 heq657882 dr_cJ5_ensureCapacityInternal_d00df_19 (gk_J4 D I) (Nat.le_of_ble_eq_true rfl) wr_7_60 rfl ?_
    refine G_aload_n 1 dr_cJ5_ensureCapacityInternal_d00df_22 rfl ?_
    refine G_iload_n 2 dr_cJ5_ensureCapacityInternal_d00df_23 rfl ?_
    refine Gw_callVB (As := [.int p657884]) (gV_ok D I) (cp_657910_AbstractStringBuilder_newCapacity l hl0 D I P657880 F657881 q657882 q657883 p657884 p657885 p657886 f657887 n657888 hmq657882 hmq657883 heq657882 heq657883 bp657884 bp657885 bp657886 bf657887 (by have qa0 : Int32.toInt 0 = 0 := (by decide); omega) (by have qa0 : Int32.toInt 0 = 0 := (by decide); omega) (by have qa0 : Int32.toInt 0 = 0 := (by decide); omega)) dr_cJ5_ensureCapacityInternal_d00df_24 ⟨wr_8_8, wr_1_19, wr_8_11, by decide, rfl, (Nat.le_of_ble_eq_true rfl), (Nat.le_of_ble_eq_true rfl)⟩ wr_8_10 wr_s_1 hmq657882 heq657882 rfl (show 0 + 0 ≤ 1 by first | omega | decide) (show 0 + 0 ≤ (2 * n657888 + 2 + p657884.toInt.toNat) by first | omega | decide) (Nat.le_of_ble_eq_true rfl) (fun r657929 w657930 dc657926 ds657927 hp657928 => ?_) (fun _ _ _ _ _ z => z.elim)
    obtain ⟨o657931, rfl, rfl, hdc, hds, bo657931, x657932, x657933, x657934, ht657935⟩ := hp657928
    change G _ _ _ _ _ _ _ (.int o657931 :: _) _ _ _
    refine G_widen (cs' := 0) (sl' := 0) (by omega) (by omega) ?_
    refine G_aload_n 1 dr_cJ5_ensureCapacityInternal_d00df_27 rfl ?_
    refine Gp_get 1 hmq657882 heq657882 dr_cJ5_ensureCapacityInternal_d00df_28 (gk_J4 D I) (Nat.le_of_ble_eq_true rfl) wr_7_61 rfl ?_
    refine G_ishl dr_cJ5_ensureCapacityInternal_d00df_31 (G_nam fun z657936 hz657936 => ?_)
    have ez657936 : z657936.toInt = o657931.toInt * 1 := gI_shl (k := 0) hz657936 (by decide) bo657931 (by decide) (by decide)
    have bz657936 : gB z657936 1 33554432 := ⟨by omega, by omega⟩
    refine Gw_callS (As := [.ref q657883, .int z657936]) (gV_ok D I) (cp_657945_Arrays_copyOf l hl0 D I P657880 F657881 q657883 z657936 f657887 n657888 hmq657883 heq657883 (gB_w bz657936 (by decide) (by decide)) bf657887 (by have qa0 : Int32.toInt 0 = 0 := (by decide); omega) (by have qa0 : Int32.toInt 0 = 0 := (by decide); omega)) dr_cJ5_ensureCapacityInternal_d00df_32 ⟨wr_8_21, wr_1_30, wr_8_23, by decide, rfl, (Nat.le_of_ble_eq_true rfl), (Nat.le_of_ble_eq_true rfl)⟩ wr_8_22 (show 0 + 1 ≤ 1 by first | omega | decide) (show 0 + z657936.toInt.toNat ≤ (2 * n657888 + 2 + p657884.toInt.toNat) by first | omega | decide) (Nat.le_of_ble_eq_true rfl) (fun r657980 w657981 dc657977 ds657978 hp657979 => ?_) (fun _ _ _ _ _ z => z.elim)
    obtain ⟨P657985, F657986, q657982, f657983, rfl, rfl, hsb657987, hfr657988, he657989, he657990, hm657991, hq657992, hdc, hds, bf657983, ht657984⟩ := hp657979
    have hm657993 : q657882 ∈ P657985 := hsb657987 q657882 hmq657882
    have hm657994 : q657883 ∈ P657985 := hsb657987 q657883 hmq657883
    have hq657995 : q657982 ∉ P657880 := fun z => hq657992 ((rSub_rf (P := P657880)) q657982 z)
    have hsb657996 : rSub P657880 P657985 := rSub_tr (rSub_rf (P := P657880)) hsb657987
    have he657997 : F657986 q657882 = .inr (1, [.ref q657883, .int 0, .int p657885, .int p657886]) := (hfr657988 q657882 hmq657882 nm_n).trans heq657882
    have hfr657998 : rFr [] P657880 F657881 F657986 := rFr_call (rSub_rf (P := P657880)) (rFr_rf (W := []) (P := P657880) (F := F657881)) hfr657988 (fun b hb hn => ⟨nm_n, nm_n⟩)
    change G _ _ _ _ _ _ _ (.ref q657982 :: _) _ _ _
    refine G_widen (cs' := 1) (sl' := z657936.toInt.toNat) (by omega) (by omega) ?_
    refine Gp_put 0 hm657993 he657997 dr_cJ5_ensureCapacityInternal_d00df_35 (gk_J4 D I) (Nat.le_of_ble_eq_true rfl) wr_7_60 rfl rfl rfl (Nat.le_of_ble_eq_true rfl) (fun F657999 e658000 n658001 => ?_)
    have he658002 : F657999 q657883 = .inl (I .byte, n657888, .inl f657887) := (n658001 q657883 (rn_ao he657989 he657997)).trans he657989
    have he658003 : F657999 q657982 = .inl (I .byte, z657936.toInt.toNat, .inl f657983) := (n658001 q657982 (fun h => hq657995 (h ▸ hmq657882))).trans he657990
    have he658004 : F657999 q657882 = .inr (1, [.ref q657982, .int 0, .int p657885, .int p657886]) := e658000
    have hfr658005 : rFr [q657882] P657880 F657881 F657999 := rFr_put hfr657998 n658001
    exact G_vretA dr_cJ5_ensureCapacityInternal_d00df_38 rfl (Nat.le_of_ble_eq_true rfl) (show z657936.toInt.toNat ≤ (2 * n657888 + 2 + p657884.toInt.toNat) by omega) ⟨P657985, F657999, q657982, z657936.toInt.toNat, f657983, rfl, rfl, hsb657996, hfr658005, he658004, he658003, hm657991, (Or.inr hq657995), (Nat.le_of_ble_eq_true rfl), (by omega), bf657983, (by have qa0 : Int32.toInt 0 = 0 := (by decide); omega), (by have qa0 : Int32.toInt 0 = 0 := (by decide); omega), (by have qa0 : Int32.toInt 0 = 0 := (by decide); omega), (by have qa0 : Int32.toInt 0 = 0 := (by decide); omega), (fun R c1 c2 => c2 z657892 z657893 z657894 o657931 z657936 f657983 ez657892 ez657893 ez657894 r657897 bo657931 ht657935 ez657936 ht657984)⟩
/- tr_RAbstractStringBuilder_append2: a.0...count, a.0.value.#, a.0.value.[] -/
def tr_RAbstractStringBuilder_append2 (a1 : Int32) (a0_count : Int32) (a0_value_v : Nat → Int32) (a0_value_n : Nat) (o1 : Int32) (o2 : Nat) (o3 : Nat → Int32) : Prop := ∀ R : (Int32) → (Nat) → (Nat → Int32) → Prop,
  (∀ (x1 : Int32) (x2 : Nat) (x3 : Nat → Int32) (x4 : Int32) (x5 : Int32) (x6 : Nat → Int32), x1.toInt = a0_count.toInt + 1 → tr_RAbstractStringBuilder_ensureCapacityInternal2 x1 a0_value_v a0_value_n x2 x3 → tr_RStringLatin1_canEncode a1 (1 : Int32) → x4.toInt = a0_count.toInt + 1 → x5 = a1.toInt8.toInt32 → x6 = upd x3 a0_count.toNatClampNeg (vp_nar .byte x5) → R x4 x2 x6) →
  R o1 o2 o3
