theorem dr_cJ5_setLength_d00df_0 : decode cJ5_setLength_d00df 0 = .ok (.iload_n 1, 1) := by decide +kernel
theorem dr_cJ5_setLength_d00df_1 : decode cJ5_setLength_d00df 1 = .ok (.ifCond .ge 12, 3) := by decide +kernel
theorem dr_cJ5_setLength_d00df_13 : decode cJ5_setLength_d00df 13 = .ok (.aload_n 0, 1) := by decide +kernel
theorem dr_cJ5_setLength_d00df_14 : decode cJ5_setLength_d00df 14 = .ok (.iload_n 1, 1) := by decide +kernel
theorem dr_cJ5_setLength_d00df_15 : decode cJ5_setLength_d00df 15 = .ok (.invokevirtual 100, 3) := by decide +kernel
theorem dr_cJ5_setLength_d00df_18 : decode cJ5_setLength_d00df 18 = .ok (.aload_n 0, 1) := by decide +kernel
theorem dr_cJ5_setLength_d00df_19 : decode cJ5_setLength_d00df 19 = .ok (.getfield 79, 3) := by decide +kernel
theorem dr_cJ5_setLength_d00df_22 : decode cJ5_setLength_d00df 22 = .ok (.iload_n 1, 1) := by decide +kernel
theorem dr_cJ5_setLength_d00df_23 : decode cJ5_setLength_d00df 23 = .ok (.if_icmp .ge 40, 3) := by decide +kernel
theorem dr_cJ5_setLength_d00df_63 : decode cJ5_setLength_d00df 63 = .ok (.aload_n 0, 1) := by decide +kernel
theorem dr_cJ5_setLength_d00df_64 : decode cJ5_setLength_d00df 64 = .ok (.getfield 79, 3) := by decide +kernel
theorem dr_cJ5_setLength_d00df_67 : decode cJ5_setLength_d00df 67 = .ok (.iload_n 1, 1) := by decide +kernel
theorem dr_cJ5_setLength_d00df_68 : decode cJ5_setLength_d00df 68 = .ok (.if_icmp .le 8, 3) := by decide +kernel
theorem dr_cJ5_setLength_d00df_76 : decode cJ5_setLength_d00df 76 = .ok (.aload_n 0, 1) := by decide +kernel
theorem dr_cJ5_setLength_d00df_77 : decode cJ5_setLength_d00df 77 = .ok (.iload_n 1, 1) := by decide +kernel
theorem dr_cJ5_setLength_d00df_78 : decode cJ5_setLength_d00df 78 = .ok (.putfield 79, 3) := by decide +kernel
theorem dr_cJ5_setLength_d00df_81 : decode cJ5_setLength_d00df 81 = .ok (.return_, 1) := by decide +kernel
theorem dr_cJ5_setLength_d00df_71 : decode cJ5_setLength_d00df 71 = .ok (.aload_n 0, 1) := by decide +kernel
theorem dr_cJ5_setLength_d00df_72 : decode cJ5_setLength_d00df 72 = .ok (.iconst 1, 1) := by decide +kernel
theorem dr_cJ5_setLength_d00df_73 : decode cJ5_setLength_d00df 73 = .ok (.putfield 73, 3) := by decide +kernel
theorem wr_7_62 : (Jvm.Cond.fieldLink "java/lang/AbstractStringBuilder" (73 : Nat) "java/lang/AbstractStringBuilder" "maybeLatin1" "Z") ∈ gw := gw_7 62 rfl rfl
theorem dr_cJ4_setLength_d00df_0 : decode cJ4_setLength_d00df 0 = .ok (.aload_n 0, 1) := by decide +kernel
theorem dr_cJ4_setLength_d00df_1 : decode cJ4_setLength_d00df 1 = .ok (.iload_n 1, 1) := by decide +kernel
theorem dr_cJ4_setLength_d00df_2 : decode cJ4_setLength_d00df 2 = .ok (.invokespecial 333, 3) := by decide +kernel
theorem wr_11_129 : (Jvm.Cond.methodLink "java/lang/StringBuilder" (333 : Nat) ({ cls := "java/lang/AbstractStringBuilder", name := "setLength", desc := "(I)V" } : Jvm.MethodName)) ∈ gw := gw_11 129 rfl rfl
theorem wr_11_131 : (Jvm.Cond.code ({ cls := "java/lang/AbstractStringBuilder", name := "setLength", desc := "(I)V" } : Jvm.MethodName) prog_21_method_13_code (2 : Nat) (Option.none : Option Jvm.ClassFile.FieldType)) ∈ gw := gw_11 131 rfl rfl
theorem wr_11_130 : (Jvm.Cond.instanceMethod ({ cls := "java/lang/AbstractStringBuilder", name := "setLength", desc := "(I)V" } : Jvm.MethodName)) ∈ gw := gw_11 130 rfl rfl
theorem wr_11_233 : (Jvm.Cond.sameMethod "java/lang/AbstractStringBuilder" "java/lang/AbstractStringBuilder" "setLength" "(I)V") ∈ gw := gw_11 233 rfl rfl
theorem dr_cJ4_setLength_d00df_5 : decode cJ4_setLength_d00df 5 = .ok (.return_, 1) := by decide +kernel
theorem dr_cJ5_init_d00df_0 : decode cJ5_init_d00df 0 = .ok (.aload_n 0, 1) := by decide +kernel
theorem dr_cJ5_init_d00df_1 : decode cJ5_init_d00df 1 = .ok (.invokespecial 3, 3) := by decide +kernel
theorem wr_7_51 : (Jvm.Cond.methodLink "java/lang/AbstractStringBuilder" (3 : Nat) ({ cls := "java/lang/Object", name := "<init>", desc := "()V" } : Jvm.MethodName)) ∈ gw := gw_7 51 rfl rfl
theorem dr_cJ5_init_d00df_4 : decode cJ5_init_d00df 4 = .ok (.getstatic 18, 3) := by decide +kernel
theorem dr_cJ5_init_d00df_7 : decode cJ5_init_d00df 7 = .ok (.ifCond .eq 18, 3) := by decide +kernel
theorem dr_cJ5_init_d00df_10 : decode cJ5_init_d00df 10 = .ok (.aload_n 0, 1) := by decide +kernel
theorem dr_cJ5_init_d00df_11 : decode cJ5_init_d00df 11 = .ok (.iload_n 1, 1) := by decide +kernel
theorem dr_cJ5_init_d00df_12 : decode cJ5_init_d00df 12 = .ok (.newarray .byte, 2) := by decide +kernel
theorem dr_cJ5_init_d00df_14 : decode cJ5_init_d00df 14 = .ok (.putfield 15, 3) := by decide +kernel
theorem dr_cJ5_init_d00df_17 : decode cJ5_init_d00df 17 = .ok (.aload_n 0, 1) := by decide +kernel
theorem dr_cJ5_init_d00df_18 : decode cJ5_init_d00df 18 = .ok (.iconst 0, 1) := by decide +kernel
theorem dr_cJ5_init_d00df_19 : decode cJ5_init_d00df 19 = .ok (.putfield 22, 3) := by decide +kernel
theorem dr_cJ5_init_d00df_22 : decode cJ5_init_d00df 22 = .ok (.goto 16, 3) := by decide +kernel
theorem dr_cJ5_init_d00df_38 : decode cJ5_init_d00df 38 = .ok (.return_, 1) := by decide +kernel
theorem dr_cJ4_init_da8c8_0 : decode cJ4_init_da8c8 0 = .ok (.aload_n 0, 1) := by decide +kernel
theorem dr_cJ4_init_da8c8_1 : decode cJ4_init_da8c8 1 = .ok (.bipush 16, 2) := by decide +kernel
theorem dr_cJ4_init_da8c8_3 : decode cJ4_init_da8c8 3 = .ok (.invokespecial 1, 3) := by decide +kernel
theorem wr_7_48 : (Jvm.Cond.methodLink "java/lang/StringBuilder" (1 : Nat) ({ cls := "java/lang/AbstractStringBuilder", name := "<init>", desc := "(I)V" } : Jvm.MethodName)) ∈ gw := gw_7 48 rfl rfl
theorem wr_7_50 : (Jvm.Cond.code ({ cls := "java/lang/AbstractStringBuilder", name := "<init>", desc := "(I)V" } : Jvm.MethodName) prog_21_method_2_code (2 : Nat) (Option.none : Option Jvm.ClassFile.FieldType)) ∈ gw := gw_7 50 rfl rfl
theorem wr_7_49 : (Jvm.Cond.instanceMethod ({ cls := "java/lang/AbstractStringBuilder", name := "<init>", desc := "(I)V" } : Jvm.MethodName)) ∈ gw := gw_7 49 rfl rfl
theorem dr_cJ4_init_da8c8_6 : decode cJ4_init_da8c8 6 = .ok (.return_, 1) := by decide +kernel
theorem dr_cJ0_coder_7d493_0 : decode cJ0_coder_7d493 0 = .ok (.getstatic 38, 3) := by decide +kernel
theorem wr_3_65 : (Jvm.Cond.fieldLink "java/lang/String" (38 : Nat) "java/lang/String" "COMPACT_STRINGS" "Z") ∈ gw := gw_3 65 rfl rfl
theorem dr_cJ0_coder_7d493_3 : decode cJ0_coder_7d493 3 = .ok (.ifCond .eq 10, 3) := by decide +kernel
theorem dr_cJ0_coder_7d493_6 : decode cJ0_coder_7d493 6 = .ok (.aload_n 0, 1) := by decide +kernel
theorem dr_cJ0_coder_7d493_7 : decode cJ0_coder_7d493 7 = .ok (.getfield 15, 3) := by decide +kernel
theorem wr_8_183 : (Jvm.Cond.fieldLink "java/lang/String" (15 : Nat) "java/lang/String" "coder" "B") ∈ gw := gw_8 183 rfl rfl
theorem dr_cJ0_coder_7d493_10 : decode cJ0_coder_7d493 10 = .ok (.goto 4, 3) := by decide +kernel
theorem dr_cJ0_coder_7d493_14 : decode cJ0_coder_7d493 14 = .ok (.ireturn, 1) := by decide +kernel
theorem dr_cJ0_length_8abf5_0 : decode cJ0_length_8abf5 0 = .ok (.aload_n 0, 1) := by decide +kernel
theorem dr_cJ0_length_8abf5_1 : decode cJ0_length_8abf5 1 = .ok (.getfield 9, 3) := by decide +kernel
theorem wr_8_182 : (Jvm.Cond.fieldLink "java/lang/String" (9 : Nat) "java/lang/String" "value" "[B") ∈ gw := gw_8 182 rfl rfl
theorem dr_cJ0_length_8abf5_4 : decode cJ0_length_8abf5 4 = .ok (.arraylength, 1) := by decide +kernel
theorem dr_cJ0_length_8abf5_5 : decode cJ0_length_8abf5 5 = .ok (.aload_n 0, 1) := by decide +kernel
theorem dr_cJ0_length_8abf5_6 : decode cJ0_length_8abf5 6 = .ok (.invokevirtual 335, 3) := by decide +kernel
theorem wr_3_61 : (Jvm.Cond.methodLink "java/lang/String" (335 : Nat) ({ cls := "java/lang/String", name := "coder", desc := "()B" } : Jvm.MethodName)) ∈ gw := gw_3 61 rfl rfl
theorem wr_3_64 : (Jvm.Cond.code ({ cls := "java/lang/String", name := "coder", desc := "()B" } : Jvm.MethodName) prog_34_method_152_code (1 : Nat) (Option.some Jvm.ClassFile.FieldType.byte)) ∈ gw := gw_3 64 rfl rfl
theorem wr_3_62 : (Jvm.Cond.instanceMethod ({ cls := "java/lang/String", name := "coder", desc := "()B" } : Jvm.MethodName)) ∈ gw := gw_3 62 rfl rfl
theorem wr_3_63 : (Jvm.Cond.selects "java/lang/String" ({ cls := "java/lang/String", name := "coder", desc := "()B" } : Jvm.MethodName) ({ cls := "java/lang/String", name := "coder", desc := "()B" } : Jvm.MethodName)) ∈ gw := gw_3 63 rfl rfl
theorem dr_cJ0_length_8abf5_9 : decode cJ0_length_8abf5 9 = .ok (.ishr, 1) := by decide +kernel
theorem dr_cJ0_length_8abf5_10 : decode cJ0_length_8abf5 10 = .ok (.ireturn, 1) := by decide +kernel
theorem dr_cJ5_inflateIfNeededFor_a7421_0 : decode cJ5_inflateIfNeededFor_a7421 0 = .ok (.getstatic 18, 3) := by decide +kernel
theorem dr_cJ5_inflateIfNeededFor_a7421_3 : decode cJ5_inflateIfNeededFor_a7421 3 = .ok (.ifCond .eq 18, 3) := by decide +kernel
theorem dr_cJ5_inflateIfNeededFor_a7421_6 : decode cJ5_inflateIfNeededFor_a7421 6 = .ok (.aload_n 0, 1) := by decide +kernel
theorem dr_cJ5_inflateIfNeededFor_a7421_7 : decode cJ5_inflateIfNeededFor_a7421 7 = .ok (.getfield 22, 3) := by decide +kernel
theorem dr_cJ5_inflateIfNeededFor_a7421_10 : decode cJ5_inflateIfNeededFor_a7421 10 = .ok (.aload_n 1, 1) := by decide +kernel
theorem dr_cJ5_inflateIfNeededFor_a7421_11 : decode cJ5_inflateIfNeededFor_a7421 11 = .ok (.invokevirtual 40, 3) := by decide +kernel
theorem wr_8_163 : (Jvm.Cond.methodLink "java/lang/AbstractStringBuilder" (40 : Nat) ({ cls := "java/lang/String", name := "coder", desc := "()B" } : Jvm.MethodName)) ∈ gw := gw_8 163 rfl rfl
theorem dr_cJ5_inflateIfNeededFor_a7421_14 : decode cJ5_inflateIfNeededFor_a7421 14 = .ok (.if_icmp .eq 7, 3) := by decide +kernel
theorem dr_cJ5_inflateIfNeededFor_a7421_21 : decode cJ5_inflateIfNeededFor_a7421 21 = .ok (.return_, 1) := by decide +kernel
theorem dr_cJ0_getBytes_840e7_0 : decode cJ0_getBytes_840e7 0 = .ok (.aload_n 0, 1) := by decide +kernel
theorem dr_cJ0_getBytes_840e7_1 : decode cJ0_getBytes_840e7 1 = .ok (.invokevirtual 335, 3) := by decide +kernel
theorem dr_cJ0_getBytes_840e7_4 : decode cJ0_getBytes_840e7 4 = .ok (.iload_n 3, 1) := by decide +kernel
theorem dr_cJ0_getBytes_840e7_5 : decode cJ0_getBytes_840e7 5 = .ok (.if_icmp .ne 23, 3) := by decide +kernel
theorem dr_cJ0_getBytes_840e7_8 : decode cJ0_getBytes_840e7 8 = .ok (.aload_n 0, 1) := by decide +kernel
theorem dr_cJ0_getBytes_840e7_9 : decode cJ0_getBytes_840e7 9 = .ok (.getfield 9, 3) := by decide +kernel
theorem dr_cJ0_getBytes_840e7_12 : decode cJ0_getBytes_840e7 12 = .ok (.iconst 0, 1) := by decide +kernel
theorem dr_cJ0_getBytes_840e7_13 : decode cJ0_getBytes_840e7 13 = .ok (.aload_n 1, 1) := by decide +kernel
theorem dr_cJ0_getBytes_840e7_14 : decode cJ0_getBytes_840e7 14 = .ok (.iload_n 2, 1) := by decide +kernel
theorem dr_cJ0_getBytes_840e7_15 : decode cJ0_getBytes_840e7 15 = .ok (.iload_n 3, 1) := by decide +kernel
theorem dr_cJ0_getBytes_840e7_16 : decode cJ0_getBytes_840e7 16 = .ok (.ishl, 1) := by decide +kernel
theorem dr_cJ0_getBytes_840e7_17 : decode cJ0_getBytes_840e7 17 = .ok (.aload_n 0, 1) := by decide +kernel
theorem dr_cJ0_getBytes_840e7_18 : decode cJ0_getBytes_840e7 18 = .ok (.getfield 9, 3) := by decide +kernel
theorem dr_cJ0_getBytes_840e7_21 : decode cJ0_getBytes_840e7 21 = .ok (.arraylength, 1) := by decide +kernel
theorem dr_cJ0_getBytes_840e7_22 : decode cJ0_getBytes_840e7 22 = .ok (.invokestatic 212, 3) := by decide +kernel
theorem wr_8_168 : (Jvm.Cond.methodLink "java/lang/String" (212 : Nat) ({ cls := "java/lang/System", name := "arraycopy", desc := "(Ljava/lang/Object;ILjava/lang/Object;II)V" } : Jvm.MethodName)) ∈ gw := gw_8 168 rfl rfl
theorem dr_cJ0_getBytes_840e7_25 : decode cJ0_getBytes_840e7 25 = .ok (.goto 18, 3) := by decide +kernel
theorem dr_cJ0_getBytes_840e7_43 : decode cJ0_getBytes_840e7 43 = .ok (.return_, 1) := by decide +kernel
theorem dr_cJ5_putStringAt_47b60_0 : decode cJ5_putStringAt_47b60 0 = .ok (.aload_n 0, 1) := by decide +kernel
theorem dr_cJ5_putStringAt_47b60_1 : decode cJ5_putStringAt_47b60 1 = .ok (.aload_n 2, 1) := by decide +kernel
theorem dr_cJ5_putStringAt_47b60_2 : decode cJ5_putStringAt_47b60 2 = .ok (.invokevirtual 397, 3) := by decide +kernel
theorem wr_8_159 : (Jvm.Cond.methodLink "java/lang/AbstractStringBuilder" (397 : Nat) ({ cls := "java/lang/AbstractStringBuilder", name := "inflateIfNeededFor", desc := "(Ljava/lang/String;)V" } : Jvm.MethodName)) ∈ gw := gw_8 159 rfl rfl
theorem wr_8_162 : (Jvm.Cond.code ({ cls := "java/lang/AbstractStringBuilder", name := "inflateIfNeededFor", desc := "(Ljava/lang/String;)V" } : Jvm.MethodName) prog_21_method_71_code (2 : Nat) (Option.none : Option Jvm.ClassFile.FieldType)) ∈ gw := gw_8 162 rfl rfl
theorem wr_8_161 : (Jvm.Cond.instanceMethod ({ cls := "java/lang/AbstractStringBuilder", name := "inflateIfNeededFor", desc := "(Ljava/lang/String;)V" } : Jvm.MethodName)) ∈ gw := gw_8 161 rfl rfl
theorem wr_s_5 : Cond.selects "java/lang/StringBuilder" ⟨"java/lang/AbstractStringBuilder", "inflateIfNeededFor", "(Ljava/lang/String;)V"⟩ ⟨"java/lang/AbstractStringBuilder", "inflateIfNeededFor", "(Ljava/lang/String;)V"⟩ ∈ gw := gw_s _ 5 rfl rfl rfl
theorem dr_cJ5_putStringAt_47b60_5 : decode cJ5_putStringAt_47b60 5 = .ok (.aload_n 2, 1) := by decide +kernel
theorem dr_cJ5_putStringAt_47b60_6 : decode cJ5_putStringAt_47b60 6 = .ok (.aload_n 0, 1) := by decide +kernel
theorem dr_cJ5_putStringAt_47b60_7 : decode cJ5_putStringAt_47b60 7 = .ok (.getfield 15, 3) := by decide +kernel
theorem dr_cJ5_putStringAt_47b60_10 : decode cJ5_putStringAt_47b60 10 = .ok (.iload_n 1, 1) := by decide +kernel
theorem dr_cJ5_putStringAt_47b60_11 : decode cJ5_putStringAt_47b60 11 = .ok (.aload_n 0, 1) := by decide +kernel
theorem dr_cJ5_putStringAt_47b60_12 : decode cJ5_putStringAt_47b60 12 = .ok (.getfield 22, 3) := by decide +kernel
theorem dr_cJ5_putStringAt_47b60_15 : decode cJ5_putStringAt_47b60 15 = .ok (.invokevirtual 399, 3) := by decide +kernel
theorem wr_8_164 : (Jvm.Cond.methodLink "java/lang/AbstractStringBuilder" (399 : Nat) ({ cls := "java/lang/String", name := "getBytes", desc := "([BIB)V" } : Jvm.MethodName)) ∈ gw := gw_8 164 rfl rfl
theorem wr_8_167 : (Jvm.Cond.code ({ cls := "java/lang/String", name := "getBytes", desc := "([BIB)V" } : Jvm.MethodName) prog_34_method_147_code (4 : Nat) (Option.none : Option Jvm.ClassFile.FieldType)) ∈ gw := gw_8 167 rfl rfl
theorem wr_8_165 : (Jvm.Cond.instanceMethod ({ cls := "java/lang/String", name := "getBytes", desc := "([BIB)V" } : Jvm.MethodName)) ∈ gw := gw_8 165 rfl rfl
theorem wr_8_166 : (Jvm.Cond.selects "java/lang/String" ({ cls := "java/lang/String", name := "getBytes", desc := "([BIB)V" } : Jvm.MethodName) ({ cls := "java/lang/String", name := "getBytes", desc := "([BIB)V" } : Jvm.MethodName)) ∈ gw := gw_8 166 rfl rfl
theorem dr_cJ5_putStringAt_47b60_18 : decode cJ5_putStringAt_47b60 18 = .ok (.return_, 1) := by decide +kernel
theorem dr_cJ5_append_cf1ce_0 : decode cJ5_append_cf1ce 0 = .ok (.aload_n 1, 1) := by decide +kernel
theorem dr_cJ5_append_cf1ce_1 : decode cJ5_append_cf1ce 1 = .ok (.ifnonnull 8, 3) := by decide +kernel
theorem dr_cJ5_append_cf1ce_9 : decode cJ5_append_cf1ce 9 = .ok (.aload_n 1, 1) := by decide +kernel
theorem dr_cJ5_append_cf1ce_10 : decode cJ5_append_cf1ce 10 = .ok (.invokevirtual 32, 3) := by decide +kernel
theorem wr_8_154 : (Jvm.Cond.methodLink "java/lang/AbstractStringBuilder" (32 : Nat) ({ cls := "java/lang/String", name := "length", desc := "()I" } : Jvm.MethodName)) ∈ gw := gw_8 154 rfl rfl
theorem wr_3_60 : (Jvm.Cond.code ({ cls := "java/lang/String", name := "length", desc := "()I" } : Jvm.MethodName) prog_34_method_54_code (1 : Nat) (Option.some Jvm.ClassFile.FieldType.int)) ∈ gw := gw_3 60 rfl rfl
theorem wr_3_58 : (Jvm.Cond.instanceMethod ({ cls := "java/lang/String", name := "length", desc := "()I" } : Jvm.MethodName)) ∈ gw := gw_3 58 rfl rfl
theorem wr_3_59 : (Jvm.Cond.selects "java/lang/String" ({ cls := "java/lang/String", name := "length", desc := "()I" } : Jvm.MethodName) ({ cls := "java/lang/String", name := "length", desc := "()I" } : Jvm.MethodName)) ∈ gw := gw_3 59 rfl rfl
theorem dr_cJ5_append_cf1ce_13 : decode cJ5_append_cf1ce 13 = .ok (.istore_n 2, 1) := by decide +kernel
theorem dr_cJ5_append_cf1ce_14 : decode cJ5_append_cf1ce 14 = .ok (.aload_n 0, 1) := by decide +kernel
theorem dr_cJ5_append_cf1ce_15 : decode cJ5_append_cf1ce 15 = .ok (.aload_n 0, 1) := by decide +kernel
theorem dr_cJ5_append_cf1ce_16 : decode cJ5_append_cf1ce 16 = .ok (.getfield 79, 3) := by decide +kernel
theorem dr_cJ5_append_cf1ce_19 : decode cJ5_append_cf1ce 19 = .ok (.iload_n 2, 1) := by decide +kernel
theorem dr_cJ5_append_cf1ce_20 : decode cJ5_append_cf1ce 20 = .ok (.iadd, 1) := by decide +kernel
theorem dr_cJ5_append_cf1ce_21 : decode cJ5_append_cf1ce 21 = .ok (.invokevirtual 100, 3) := by decide +kernel
theorem dr_cJ5_append_cf1ce_24 : decode cJ5_append_cf1ce 24 = .ok (.aload_n 0, 1) := by decide +kernel
theorem dr_cJ5_append_cf1ce_25 : decode cJ5_append_cf1ce 25 = .ok (.aload_n 0, 1) := by decide +kernel
theorem dr_cJ5_append_cf1ce_26 : decode cJ5_append_cf1ce 26 = .ok (.getfield 79, 3) := by decide +kernel
theorem dr_cJ5_append_cf1ce_29 : decode cJ5_append_cf1ce 29 = .ok (.aload_n 1, 1) := by decide +kernel
theorem dr_cJ5_append_cf1ce_30 : decode cJ5_append_cf1ce 30 = .ok (.invokevirtual 208, 3) := by decide +kernel
theorem wr_8_155 : (Jvm.Cond.methodLink "java/lang/AbstractStringBuilder" (208 : Nat) ({ cls := "java/lang/AbstractStringBuilder", name := "putStringAt", desc := "(ILjava/lang/String;)V" } : Jvm.MethodName)) ∈ gw := gw_8 155 rfl rfl
theorem wr_8_158 : (Jvm.Cond.code ({ cls := "java/lang/AbstractStringBuilder", name := "putStringAt", desc := "(ILjava/lang/String;)V" } : Jvm.MethodName) prog_21_method_73_code (3 : Nat) (Option.none : Option Jvm.ClassFile.FieldType)) ∈ gw := gw_8 158 rfl rfl
theorem wr_8_157 : (Jvm.Cond.instanceMethod ({ cls := "java/lang/AbstractStringBuilder", name := "putStringAt", desc := "(ILjava/lang/String;)V" } : Jvm.MethodName)) ∈ gw := gw_8 157 rfl rfl
theorem wr_s_4 : Cond.selects "java/lang/StringBuilder" ⟨"java/lang/AbstractStringBuilder", "putStringAt", "(ILjava/lang/String;)V"⟩ ⟨"java/lang/AbstractStringBuilder", "putStringAt", "(ILjava/lang/String;)V"⟩ ∈ gw := gw_s _ 4 rfl rfl rfl
theorem dr_cJ5_append_cf1ce_33 : decode cJ5_append_cf1ce 33 = .ok (.aload_n 0, 1) := by decide +kernel
theorem dr_cJ5_append_cf1ce_34 : decode cJ5_append_cf1ce 34 = .ok (.dup, 1) := by decide +kernel
theorem dr_cJ5_append_cf1ce_35 : decode cJ5_append_cf1ce 35 = .ok (.getfield 79, 3) := by decide +kernel
theorem dr_cJ5_append_cf1ce_38 : decode cJ5_append_cf1ce 38 = .ok (.iload_n 2, 1) := by decide +kernel
theorem dr_cJ5_append_cf1ce_39 : decode cJ5_append_cf1ce 39 = .ok (.iadd, 1) := by decide +kernel
theorem dr_cJ5_append_cf1ce_40 : decode cJ5_append_cf1ce 40 = .ok (.putfield 79, 3) := by decide +kernel
theorem dr_cJ5_append_cf1ce_43 : decode cJ5_append_cf1ce 43 = .ok (.aload_n 0, 1) := by decide +kernel
theorem dr_cJ5_append_cf1ce_44 : decode cJ5_append_cf1ce 44 = .ok (.areturn, 1) := by decide +kernel
abbrev ky_640228_AbstractStringBuilder_append : gKey := (cJ5_append_3fe6f, 2, "java/lang/AbstractStringBuilder", (some (FieldType.object "java/lang/AbstractStringBuilder")), [], "append", fun _ _ => True)
def pp_640228_AbstractStringBuilder_append (D : va_G) (I : FieldType → ClassId) (P640216 : List Nat) (F640217 : Nat → va_E) (q640218 : Nat) (q640219 : Nat) (p640220 : Int32) (p640221 : Int32) (p640222 : Int32) (f640223 : Nat → Int32) (n640224 : Nat) : Option Value → va_W → Nat → Nat → Prop := fun r w dc ds => ∃ (P640418 : List Nat) (F640419 : Nat → va_E) (o640414 : Int32) (q640415 : Nat) (n640416 : Nat) (f640417 : Nat → Int32), r = some (.ref q640218) ∧ w = va_pl P640418 F640419 ∧ rSub P640216 P640418 ∧ rFr [q640219, q640218] P640216 F640217 F640419 ∧ F640419 q640218 = .inr (1, [.ref q640415, .int 0, .int p640221, .int o640414]) ∧ F640419 q640415 = .inl (I .byte, n640416, .inl f640417) ∧ q640415 ∈ P640418 ∧ (q640415 = q640219 ∨ q640415 ∉ P640216) ∧ dc ≤ 1 ∧ ds ≤ 2 * (n640416 - n640224) ∧ gB o640414 1 16777216 ∧ gF f640417 (-128) 127 ∧ o640414.toInt = p640222.toInt + 1 ∧ o640414.toInt ≤ (n640416 : Int) ∧ (n640224 : Int) ≤ (n640416 : Int) ∧ (n640416 : Int) ≤ 2 * (n640224 : Int) + 2
set_option maxRecDepth 100000 in
set_option maxHeartbeats 4000000 in
theorem cp_640228_AbstractStringBuilder_append (l : Launch) (hl0 : l.stackTraces = false) (D : va_G) (I : FieldType → ClassId) (P640216 : List Nat) (F640217 : Nat → va_E) (q640218 : Nat) (q640219 : Nat) (p640220 : Int32) (p640221 : Int32) (p640222 : Int32) (f640223 : Nat → Int32) (n640224 : Nat) (hmq640218 : q640218 ∈ P640216) (hmq640219 : q640219 ∈ P640216) (heq640218 : F640217 q640218 = .inr (1, [.ref q640219, .int 0, .int p640221, .int p640222])) (heq640219 : F640217 q640219 = .inl (I .byte, n640224, .inl f640223)) (bp640220 : gB p640220 0 255) (bp640221 : gB p640221 0 1) (bp640222 : gB p640222 0 16777216) (bf640223 : gF f640223 (-128) 127) (x640225 : (n640224 : Int) ≤ 8388608 - 100000) (x640226 : p640222.toInt ≤ (n640224 : Int)) (x640227 : ((n640224 : Int) ≤ 16777216)) : CtA (gV D I) l yJ5_append_3fe6f cJ5_append_3fe6f 2 (some (FieldType.object "java/lang/AbstractStringBuilder")) 4 84 1 (4 * n640224 + 8) [.ref q640218, .int p640220] (va_pl P640216 F640217) (pp_640228_AbstractStringBuilder_append D I P640216 F640217 q640218 q640219 p640220 p640221 p640222 f640223 n640224) gNA := by
  refine CtA_ofF hl0 (by decide +kernel) (Nat.le_of_ble_eq_true rfl) ?_
  refine G_aload_n 0 dr_cJ5_append_3fe6f_0 rfl ?_
  refine G_aload_n 0 dr_cJ5_append_3fe6f_1 rfl ?_
  refine Gp_get 3 hmq640218 heq640218 dr_cJ5_append_3fe6f_2 (gk_J4 D I) (Nat.le_of_ble_eq_true rfl) wr_7_64 rfl ?_
  refine G_iconst 1 dr_cJ5_append_3fe6f_5 (by decide +kernel) ?_
  refine G_iadd dr_cJ5_append_3fe6f_6 (G_nam fun z640229 hz640229 => ?_)
  have ez640229 : z640229.toInt = p640222.toInt + 1 := by rw [gI_add hz640229 bp640222 (gBl (show Int32.toInt 1 = 1 by decide)) (by decide) (by decide), show Int32.toInt 1 = 1 from by decide]
  have bz640229 : gB z640229 1 16777217 := gB_add (gI_add hz640229 bp640222 (gBl (show Int32.toInt 1 = 1 by decide)) (by decide) (by decide)) bp640222 (gBl (show Int32.toInt 1 = 1 by decide)) (by decide) (by decide)
  refine Gw_callVB (As := [.int z640229]) (gV_ok D I) (cp_640241_AbstractStringBuilder_ensureCapacityInternal l hl0 D I P640216 F640217 q640218 q640219 z640229 p640221 p640222 f640223 n640224 hmq640218 hmq640219 heq640218 heq640219 ⟨by omega, by omega⟩ bp640221 bp640222 bf640223 (by have qa0 : Int32.toInt 0 = 0 := (by decide); omega) (by have qa0 : Int32.toInt 0 = 0 := (by decide); omega)) dr_cJ5_append_3fe6f_7 ⟨wr_8_4, wr_1_19, wr_8_7, by decide, rfl, (Nat.le_of_ble_eq_true rfl), (Nat.le_of_ble_eq_true rfl)⟩ wr_8_6 wr_s_0 hmq640218 heq640218 rfl (show 0 + 1 ≤ 1 by first | omega | decide) (show 0 + (2 * n640224 + 2 + z640229.toInt.toNat) ≤ (4 * n640224 + 8) by first | omega | decide) (Nat.le_of_ble_eq_true rfl) (fun r640361 w640362 dc640358 ds640359 hp640360 => ?_) (fun _ _ _ _ _ z => z.elim)
  obtain ⟨P640370, F640371, q640363, n640364, f640365, rfl, rfl, hsb640372, hfr640373, he640374, he640375, hm640376, hq640377, hdc, hds, bf640365, x640366, x640367, x640368, x640369⟩ := hp640360
  have hm640378 : q640218 ∈ P640370 := hsb640372 q640218 hmq640218
  have hm640379 : q640219 ∈ P640370 := hsb640372 q640219 hmq640219
  have hor640380 : q640363 = q640219 ∨ q640363 ∉ P640216 := hq640377.elim Or.inl (fun n => Or.inr (fun z => n ((rSub_rf (P := P640216)) _ z)))
  have hsb640381 : rSub P640216 P640370 := rSub_tr (rSub_rf (P := P640216)) hsb640372
  have he640382 : F640371 q640219 = .inl (I .byte, n640224, .inl f640223) := (hfr640373 q640219 hmq640219 (nm_c (rn_ao heq640219 heq640218) nm_n)).trans heq640219
  have hfr640383 : rFr [q640218] P640216 F640217 F640371 := rFr_call (rSub_rf (P := P640216)) (rFr_rf (W := []) (P := P640216) (F := F640217)) hfr640373 (fun b hb hn => ⟨nm_n, (nm_c (fun e => hn (e ▸ List.mem_cons_self)) nm_n)⟩)
  change G _ _ _ _ _ _ _ _ _ _ _
  refine G_widen (cs' := 1) (sl' := 2 * (n640364 - n640224)) (by omega) (by omega) ?_
  refine G_aload_n 0 dr_cJ5_append_3fe6f_10 rfl ?_
  refine Gw_callVB (As := []) (gV_ok D I) (cp_640145_AbstractStringBuilder_isLatin1 l hl0 D I P640370 F640371 q640218 q640363 p640221 p640222 f640365 n640364 hm640378 hm640376 he640374 he640375 bp640221 bp640222 bf640365 (by have qa0 : Int32.toInt 0 = 0 := (by decide); omega)) dr_cJ5_append_3fe6f_11 ⟨wr_8_33, wr_1_19, wr_8_37, by decide, rfl, (Nat.le_of_ble_eq_true rfl), (Nat.le_of_ble_eq_true rfl)⟩ wr_8_34 wr_8_36 hm640378 he640374 rfl (show 1 + 0 ≤ 1 by first | omega | decide) (show 2 * (n640364 - n640224) + 0 ≤ (4 * n640224 + 8) by first | omega | decide) (Nat.le_of_ble_eq_true rfl) (fun r640387 w640388 dc640384 ds640385 hp640386 => ?_) (fun _ _ _ _ _ z => z.elim)
  obtain ⟨rfl, rfl, hdc, hds⟩ := hp640386
  change G _ _ _ _ _ _ _ (.int 1 :: _) _ _ _
  refine G_widen (cs' := 1) (sl' := 2 * (n640364 - n640224) + 0) (by omega) (by omega) ?_
  refine G_if_eq 45 dr_cJ5_append_3fe6f_14 (by decide +kernel) (fun hc => absurd hc (by decide)) (fun _ => ?_)
  refine G_iload_n 1 dr_cJ5_append_3fe6f_17 rfl ?_
  refine Gw_callS (As := [.int p640220]) (gV_ok D I) (cp_640154_StringLatin1_canEncode l hl0 D I P640370 F640371 p640220 (gB_w bp640220 (by decide) (by decide))) dr_cJ5_append_3fe6f_18 ⟨wr_8_38, wr_1_28, wr_8_40, by decide, rfl, (Nat.le_of_ble_eq_true rfl), (Nat.le_of_ble_eq_true rfl)⟩ wr_8_39 (show 1 + 0 ≤ 1 by first | omega | decide) (show 2 * (n640364 - n640224) + 0 + 0 ≤ (4 * n640224 + 8) by first | omega | decide) (Nat.le_of_ble_eq_true rfl) (fun r640392 w640393 dc640389 ds640390 hp640391 => ?_) (fun _ _ _ _ _ z => z.elim)
  rcases hp640391 with ⟨rfl, rfl, hdc, hds, r640394⟩ | ⟨rfl, rfl, hdc, hds, r640395⟩
  · exact absurd (show False by omega) not_false
  · change G _ _ _ _ _ _ _ (.int 1 :: _) _ _ _
    refine G_widen (cs' := 1) (sl' := 2 * (n640364 - n640224) + 0 + 0) (by omega) (by omega) ?_
    refine G_if_eq 45 dr_cJ5_append_3fe6f_21 (by decide +kernel) (fun hc => absurd hc (by decide)) (fun _ => ?_)
    refine G_aload_n 0 dr_cJ5_append_3fe6f_24 rfl ?_
    refine Gp_get 0 hm640378 he640374 dr_cJ5_append_3fe6f_25 (gk_J4 D I) (Nat.le_of_ble_eq_true rfl) wr_7_60 rfl ?_
    refine G_aload_n 0 dr_cJ5_append_3fe6f_28 rfl ?_
    refine G_dup dr_cJ5_append_3fe6f_29 rfl ?_
    refine Gp_get 3 hm640378 he640374 dr_cJ5_append_3fe6f_30 (gk_J4 D I) (Nat.le_of_ble_eq_true rfl) wr_7_64 rfl ?_
    refine G_dup_x1 dr_cJ5_append_3fe6f_33 rfl rfl ?_
    refine G_iconst 1 dr_cJ5_append_3fe6f_34 (by decide +kernel) ?_
    refine G_iadd dr_cJ5_append_3fe6f_35 (G_nam fun z640397 hz640397 => ?_)
    have ez640397 : z640397.toInt = p640222.toInt + 1 := by rw [gI_add hz640397 bp640222 (gBl (show Int32.toInt 1 = 1 by decide)) (by decide) (by decide), show Int32.toInt 1 = 1 from by decide]
    have bz640397 : gB z640397 1 16777217 := gB_add (gI_add hz640397 bp640222 (gBl (show Int32.toInt 1 = 1 by decide)) (by decide) (by decide)) bp640222 (gBl (show Int32.toInt 1 = 1 by decide)) (by decide) (by decide)
    refine Gp_put 3 hm640378 he640374 dr_cJ5_append_3fe6f_36 (gk_J4 D I) (Nat.le_of_ble_eq_true rfl) wr_7_64 rfl rfl rfl (Nat.le_of_ble_eq_true rfl) (fun F640398 e640399 n640400 => ?_)
    have he640401 : F640398 q640219 = .inl (I .byte, n640224, .inl f640223) := (n640400 q640219 (rn_ao he640382 he640374)).trans he640382
    have he640402 : F640398 q640363 = .inl (I .byte, n640364, .inl f640365) := (n640400 q640363 (rn_ao he640375 he640374)).trans he640375
    have he640403 : F640398 q640218 = .inr (1, [.ref q640363, .int 0, .int p640221, .int z640397]) := e640399
    have hfr640404 : rFr [q640218] P640216 F640217 F640398 := rFr_put' List.mem_cons_self hfr640383 n640400
    refine G_iload_n 1 dr_cJ5_append_3fe6f_39 rfl ?_
    refine G_i2b dr_cJ5_append_3fe6f_40 (G_nam fun z640405 hz640405 => ?_)
    have bz640405 : gB z640405 (-128) 127 := gB_i2b hz640405
    refine Gp_bast 1 hm640376 he640402 dr_cJ5_append_3fe6f_41 rfl (gB_inr (by omega) (by omega)) (fun F640406 e640407 n640408 => ?_)
    obtain ⟨f640409, hf640409⟩ : ∃ z, z = upd f640365 p640222.toNatClampNeg (vp_nar .byte z640405) := ⟨_, rfl⟩
    rw [← hf640409] at e640407
    have he640411 : F640406 q640218 = .inr (1, [.ref q640363, .int 0, .int p640221, .int z640397]) := (n640408 q640218 (rn_oa he640403 he640402)).trans he640403
    have he640412 : F640406 q640363 = .inl (I .byte, n640364, .inl f640409) := e640407
    have hfr640413 : rFr [q640219, q640218] P640216 F640217 F640406 := rFr_eit hor640380 hfr640404 n640408
    have bf640409 : gF f640409 (-128) 127 := gF_upd hf640409 bf640365 gB_byte
    refine G_goto 75 dr_cJ5_append_3fe6f_42 (by decide +kernel) ?_
    refine G_aload_n 0 dr_cJ5_append_3fe6f_75 rfl ?_
    exact G_aretA (FieldType.object "java/lang/AbstractStringBuilder") dr_cJ5_append_3fe6f_76 rfl (by first | exact Or.inl ⟨_, rfl⟩ | exact Or.inr ⟨_, rfl⟩) (Or.inr ⟨_, rfl⟩) (Nat.le_of_ble_eq_true rfl) (show 2 * (n640364 - n640224) + 0 + 0 ≤ (4 * n640224 + 8) by omega) ⟨P640370, F640406, z640397, q640363, n640364, f640409, rfl, rfl, hsb640381, hfr640413, he640411, he640412, hm640376, hor640380, (Nat.le_of_ble_eq_true rfl), (by omega), ⟨by omega, by omega⟩, bf640409, (by have qa0 : Int32.toInt 0 = 0 := (by decide); omega), (by have qa0 : Int32.toInt 0 = 0 := (by decide); omega), (by have qa0 : Int32.toInt 0 = 0 := (by decide); omega), (by have qa0 : Int32.toInt 0 = 0 := (by decide); omega)⟩
abbrev ky_640215_StringBuilder_append : gKey := (cJ4_append_cf468, 2, "java/lang/StringBuilder", (some (FieldType.object "java/lang/StringBuilder")), [], "append", fun _ _ => True)
def pp_640215_StringBuilder_append (D : va_G) (I : FieldType → ClassId) (P640203 : List Nat) (F640204 : Nat → va_E) (q640205 : Nat) (q640206 : Nat) (p640207 : Int32) (p640208 : Int32) (p640209 : Int32) (f640210 : Nat → Int32) (n640211 : Nat) : Option Value → va_W → Nat → Nat → Prop := fun r w dc ds => ∃ (P640450 : List Nat) (F640451 : Nat → va_E) (o640446 : Int32) (q640447 : Nat) (n640448 : Nat) (f640449 : Nat → Int32), r = some (.ref q640205) ∧ w = va_pl P640450 F640451 ∧ rSub P640203 P640450 ∧ rFr [q640206, q640205] P640203 F640204 F640451 ∧ F640451 q640205 = .inr (1, [.ref q640447, .int 0, .int p640208, .int o640446]) ∧ F640451 q640447 = .inl (I .byte, n640448, .inl f640449) ∧ q640447 ∈ P640450 ∧ (q640447 = q640206 ∨ q640447 ∉ P640203) ∧ dc ≤ 1 ∧ ds ≤ 2 * (n640448 - n640211) ∧ gB o640446 1 16777216 ∧ gF f640449 (-128) 127 ∧ o640446.toInt = p640209.toInt + 1 ∧ o640446.toInt ≤ (n640448 : Int) ∧ (n640211 : Int) ≤ (n640448 : Int) ∧ (n640448 : Int) ≤ 2 * (n640211 : Int) + 2
set_option maxRecDepth 100000 in
set_option maxHeartbeats 4000000 in
theorem cp_640215_StringBuilder_append (l : Launch) (hl0 : l.stackTraces = false) (D : va_G) (I : FieldType → ClassId) (P640203 : List Nat) (F640204 : Nat → va_E) (q640205 : Nat) (q640206 : Nat) (p640207 : Int32) (p640208 : Int32) (p640209 : Int32) (f640210 : Nat → Int32) (n640211 : Nat) (hmq640205 : q640205 ∈ P640203) (hmq640206 : q640206 ∈ P640203) (heq640205 : F640204 q640205 = .inr (1, [.ref q640206, .int 0, .int p640208, .int p640209])) (heq640206 : F640204 q640206 = .inl (I .byte, n640211, .inl f640210)) (bp640207 : gB p640207 0 255) (bp640208 : gB p640208 0 1) (bp640209 : gB p640209 0 16777216) (bf640210 : gF f640210 (-128) 127) (x640212 : (n640211 : Int) ≤ 8388608 - 100000) (x640213 : p640209.toInt ≤ (n640211 : Int)) (x640214 : ((n640211 : Int) ≤ 16777216)) : CtA (gV D I) l yJ4_append_cf468 cJ4_append_cf468 2 (some (FieldType.object "java/lang/StringBuilder")) 5 105 1 (4 * n640211 + 8) [.ref q640205, .int p640207] (va_pl P640203 F640204) (pp_640215_StringBuilder_append D I P640203 F640204 q640205 q640206 p640207 p640208 p640209 f640210 n640211) gNA := by
  refine CtA_ofF hl0 (by decide +kernel) (Nat.le_of_ble_eq_true rfl) ?_
  refine G_aload_n 0 dr_cJ4_append_cf468_0 rfl ?_
  refine G_iload_n 1 dr_cJ4_append_cf468_1 rfl ?_
  refine Gw_callSU (As := [.int p640207]) (gV_ok D I) (cp_640228_AbstractStringBuilder_append l hl0 D I P640203 F640204 q640205 q640206 p640207 p640208 p640209 f640210 n640211 hmq640205 hmq640206 heq640205 heq640206 bp640207 bp640208 bp640209 bf640210 (by have qa0 : Int32.toInt 0 = 0 := (by decide); omega) (by have qa0 : Int32.toInt 0 = 0 := (by decide); omega) (by have qa0 : Int32.toInt 0 = 0 := (by decide); omega)) dr_cJ4_append_cf468_2 ⟨wr_8_1, wr_1_19, wr_8_3, by decide, rfl, (Nat.le_of_ble_eq_true rfl), (Nat.le_of_ble_eq_true rfl)⟩ wr_8_2 wr_11_224 wr_7_73 wr_7_44 (by decide) hmq640205 heq640205 rfl (show 0 + 1 ≤ 1 by first | omega | decide) (show 0 + (4 * n640211 + 8) ≤ (4 * n640211 + 8) by first | omega | decide) (Nat.le_of_ble_eq_true rfl) (fun r640423 w640424 dc640420 ds640421 hp640422 => ?_)
  obtain ⟨P640433, F640434, o640425, q640426, n640427, f640428, rfl, rfl, hsb640435, hfr640436, he640437, he640438, hm640439, hq640440, hdc, hds, bo640425, bf640428, x640429, x640430, x640431, x640432⟩ := hp640422
  have hm640441 : q640205 ∈ P640433 := hsb640435 q640205 hmq640205
  have hm640442 : q640206 ∈ P640433 := hsb640435 q640206 hmq640206
  have hor640443 : q640426 = q640206 ∨ q640426 ∉ P640203 := hq640440.elim Or.inl (fun n => Or.inr (fun z => n ((rSub_rf (P := P640203)) _ z)))
  have hsb640444 : rSub P640203 P640433 := rSub_tr (rSub_rf (P := P640203)) hsb640435
  have hfr640445 : rFr [q640206, q640205] P640203 F640204 F640434 := rFr_call (rSub_rf (P := P640203)) (rFr_rf (W := []) (P := P640203) (F := F640204)) hfr640436 (fun b hb hn => ⟨nm_n, (nm_c (fun e => hn (e ▸ List.mem_cons_self)) (nm_c (fun e => hn (e ▸ (List.mem_cons_of_mem _ List.mem_cons_self))) nm_n))⟩)
  change G _ _ _ _ _ _ _ (.ref q640205 :: _) _ _ _
  refine G_widen (cs' := 1) (sl' := 2 * (n640427 - n640211)) (by omega) (by omega) ?_
  refine G_pop dr_cJ4_append_cf468_5 rfl ?_
  refine G_aload_n 0 dr_cJ4_append_cf468_6 rfl ?_
  exact G_aretA (FieldType.object "java/lang/StringBuilder") dr_cJ4_append_cf468_7 rfl (by first | exact Or.inl ⟨_, rfl⟩ | exact Or.inr ⟨_, rfl⟩) (Or.inr ⟨_, rfl⟩) (Nat.le_of_ble_eq_true rfl) (show 2 * (n640427 - n640211) ≤ (4 * n640211 + 8) by omega) ⟨P640433, F640434, o640425, q640426, n640427, f640428, rfl, rfl, hsb640444, hfr640445, he640437, he640438, hm640439, hor640443, (Nat.le_of_ble_eq_true rfl), (by omega), bo640425, bf640428, (by have qa0 : Int32.toInt 0 = 0 := (by decide); omega), (by have qa0 : Int32.toInt 0 = 0 := (by decide); omega), (by have qa0 : Int32.toInt 0 = 0 := (by decide); omega), (by have qa0 : Int32.toInt 0 = 0 := (by decide); omega)⟩
abbrev ky_640471_AbstractStringBuilder_setLength : gKey := (cJ5_setLength_d00df, 2, "java/lang/AbstractStringBuilder", none, [], "setLength", fun _ _ => True)
def pp_640471_AbstractStringBuilder_setLength (D : va_G) (I : FieldType → ClassId) (P640462 : List Nat) (F640463 : Nat → va_E) (q640464 : Nat) (q640465 : Nat) (p640466 : Int32) (p640467 : Int32) (f640468 : Nat → Int32) (n640469 : Nat) : Option Value → va_W → Nat → Nat → Prop := fun r w dc ds => ∃ (F640503 : Nat → va_E) (o640501 : Int32), r = none ∧ w = va_pl P640462 F640503 ∧ rFr [q640464] P640462 F640463 F640503 ∧ F640503 q640464 = .inr (1, [.ref q640465, .int 0, .int o640501, .int 0]) ∧ F640503 q640465 = .inl (I .byte, n640469, .inl f640468) ∧ dc ≤ 0 ∧ ds ≤ 0 ∧ gB o640501 0 1 ∧ 0 = 0
set_option maxRecDepth 100000 in
set_option maxHeartbeats 4000000 in
theorem cp_640471_AbstractStringBuilder_setLength (l : Launch) (hl0 : l.stackTraces = false) (D : va_G) (I : FieldType → ClassId) (P640462 : List Nat) (F640463 : Nat → va_E) (q640464 : Nat) (q640465 : Nat) (p640466 : Int32) (p640467 : Int32) (f640468 : Nat → Int32) (n640469 : Nat) (hmq640464 : q640464 ∈ P640462) (hmq640465 : q640465 ∈ P640462) (heq640464 : F640463 q640464 = .inr (1, [.ref q640465, .int 0, .int p640466, .int p640467])) (heq640465 : F640463 q640465 = .inl (I .byte, n640469, .inl f640468)) (bp640466 : gB p640466 0 1) (bp640467 : gB p640467 0 16777216) (bf640468 : gF f640468 (-128) 127) (x640470 : ((n640469 : Int) ≤ 16777216)) : CtA (gV D I) l yJ5_setLength_d00df cJ5_setLength_d00df 2 none 1 22 0 0 [.ref q640464, .int 0] (va_pl P640462 F640463) (pp_640471_AbstractStringBuilder_setLength D I P640462 F640463 q640464 q640465 p640466 p640467 f640468 n640469) gNA := by
  refine CtA_ofF hl0 (by decide +kernel) (Nat.le_of_ble_eq_true rfl) ?_
  refine G_iload_n 1 dr_cJ5_setLength_d00df_0 rfl ?_
  refine G_if_ge 13 dr_cJ5_setLength_d00df_1 (by decide +kernel) (fun _ => ?_) (fun hc => absurd hc (by decide))
  refine G_aload_n 0 dr_cJ5_setLength_d00df_13 rfl ?_
  refine G_iload_n 1 dr_cJ5_setLength_d00df_14 rfl ?_
  refine Gw_callVB (As := [.int 0]) (gV_ok D I) (cp_640124_AbstractStringBuilder_ensureCapacityInternal l hl0 D I P640462 F640463 q640464 q640465 0 p640466 p640467 f640468 n640469 hmq640464 hmq640465 heq640464 heq640465 (gB_w (gBl (show Int32.toInt 0 = 0 by decide)) (by decide) (by decide)) bp640466 bp640467 bf640468 (by have qa0 : Int32.toInt 0 = 0 := (by decide); omega) (by have qa0 : Int32.toInt 0 = 0 := (by decide); omega)) dr_cJ5_setLength_d00df_15 ⟨wr_8_4, wr_1_19, wr_8_7, by decide, rfl, (Nat.le_of_ble_eq_true rfl), (Nat.le_of_ble_eq_true rfl)⟩ wr_8_6 wr_s_0 hmq640464 heq640464 rfl (show 0 + 0 ≤ 0 by first | omega | decide) (show 0 + 0 ≤ 0 by first | omega | decide) (Nat.le_of_ble_eq_true rfl) (fun r640475 w640476 dc640472 ds640473 hp640474 => ?_) (fun _ _ _ _ _ z => z.elim)
  obtain ⟨rfl, rfl, hdc, hds⟩ := hp640474
  change G _ _ _ _ _ _ _ _ _ _ _
  refine G_widen (cs' := 0) (sl' := 0) (by omega) (by omega) ?_
  refine G_aload_n 0 dr_cJ5_setLength_d00df_18 rfl ?_
  refine Gp_get 3 hmq640464 heq640464 dr_cJ5_setLength_d00df_19 (gk_J4 D I) (Nat.le_of_ble_eq_true rfl) wr_7_64 rfl ?_
  refine G_iload_n 1 dr_cJ5_setLength_d00df_22 rfl ?_
  refine G_icmp_ge 63 dr_cJ5_setLength_d00df_23 (by decide +kernel) (fun hc640477 => ?_) (fun hc => absurd (show False by have := gj_nleL hc (show Int32.toInt 0 = 0 by decide); omega) not_false)
  have r640479 : 0 ≤ p640467.toInt := gj_leL hc640477 (show Int32.toInt 0 = 0 by decide)
  refine G_aload_n 0 dr_cJ5_setLength_d00df_63 rfl ?_
  refine Gp_get 3 hmq640464 heq640464 dr_cJ5_setLength_d00df_64 (gk_J4 D I) (Nat.le_of_ble_eq_true rfl) wr_7_64 rfl ?_
  refine G_iload_n 1 dr_cJ5_setLength_d00df_67 rfl ?_
  refine G_icmp_le 76 dr_cJ5_setLength_d00df_68 (by decide +kernel) (fun hc640480 => ?_) (fun hc640480 => ?_)
  · have r640481 : p640467.toInt ≤ 0 := gj_le hc640480 (show Int32.toInt 0 = 0 by decide)
    have bp640467' : gB p640467 0 0 := ⟨by omega, by omega⟩
    refine G_aload_n 0 dr_cJ5_setLength_d00df_76 rfl ?_
    refine G_iload_n 1 dr_cJ5_setLength_d00df_77 rfl ?_
    refine Gp_put 3 hmq640464 heq640464 dr_cJ5_setLength_d00df_78 (gk_J4 D I) (Nat.le_of_ble_eq_true rfl) wr_7_64 rfl rfl rfl (Nat.le_of_ble_eq_true rfl) (fun F640482 e640483 n640484 => ?_)
    have he640485 : F640482 q640465 = .inl (I .byte, n640469, .inl f640468) := (n640484 q640465 (rn_ao heq640465 heq640464)).trans heq640465
    have he640486 : F640482 q640464 = .inr (1, [.ref q640465, .int 0, .int p640466, .int 0]) := e640483
    have hfr640487 : rFr [q640464] P640462 F640463 F640482 := rFr_put (rFr_rf (W := []) (P := P640462) (F := F640463)) n640484
    exact G_vretA dr_cJ5_setLength_d00df_81 rfl (Nat.le_of_ble_eq_true rfl) (Nat.le_of_ble_eq_true rfl) ⟨F640482, p640466, rfl, rfl, hfr640487, he640486, he640485, (Nat.le_of_ble_eq_true rfl), (Nat.le_of_ble_eq_true rfl), bp640466, (by have qa0 : Int32.toInt 0 = 0 := (by decide); omega)⟩
  · have r640488 : 0 < p640467.toInt := gj_nle hc640480 (show Int32.toInt 0 = 0 by decide)
    have bp640467' : gB p640467 1 16777216 := ⟨by omega, by omega⟩
    refine G_aload_n 0 dr_cJ5_setLength_d00df_71 rfl ?_
    refine G_iconst 1 dr_cJ5_setLength_d00df_72 (by decide +kernel) ?_
    refine Gp_put 2 hmq640464 heq640464 dr_cJ5_setLength_d00df_73 (gk_J4 D I) (Nat.le_of_ble_eq_true rfl) wr_7_62 rfl rfl rfl (Nat.le_of_ble_eq_true rfl) (fun F640489 e640490 n640491 => ?_)
    have he640492 : F640489 q640465 = .inl (I .byte, n640469, .inl f640468) := (n640491 q640465 (rn_ao heq640465 heq640464)).trans heq640465
    have he640493 : F640489 q640464 = .inr (1, [.ref q640465, .int 0, .int 1, .int p640467]) := e640490
    have hfr640494 : rFr [q640464] P640462 F640463 F640489 := rFr_put (rFr_rf (W := []) (P := P640462) (F := F640463)) n640491
    refine G_aload_n 0 dr_cJ5_setLength_d00df_76 rfl ?_
    refine G_iload_n 1 dr_cJ5_setLength_d00df_77 rfl ?_
    refine Gp_put 3 hmq640464 he640493 dr_cJ5_setLength_d00df_78 (gk_J4 D I) (Nat.le_of_ble_eq_true rfl) wr_7_64 rfl rfl rfl (Nat.le_of_ble_eq_true rfl) (fun F640495 e640496 n640497 => ?_)
    have he640498 : F640495 q640465 = .inl (I .byte, n640469, .inl f640468) := (n640497 q640465 (rn_ao he640492 he640493)).trans he640492
    have he640499 : F640495 q640464 = .inr (1, [.ref q640465, .int 0, .int 1, .int 0]) := e640496
    have hfr640500 : rFr [q640464] P640462 F640463 F640495 := rFr_put' List.mem_cons_self hfr640494 n640497
    exact G_vretA dr_cJ5_setLength_d00df_81 rfl (Nat.le_of_ble_eq_true rfl) (Nat.le_of_ble_eq_true rfl) ⟨F640495, 1, rfl, rfl, hfr640500, he640499, he640498, (Nat.le_of_ble_eq_true rfl), (Nat.le_of_ble_eq_true rfl), (gB_w (gBl (show Int32.toInt 1 = 1 by decide)) (by decide) (by decide)), (by have qa0 : Int32.toInt 0 = 0 := (by decide); have qa1 : Int32.toInt 1 = 1 := (by decide); omega)⟩
abbrev ky_640461_StringBuilder_setLength : gKey := (cJ4_setLength_d00df, 2, "java/lang/StringBuilder", none, [], "setLength", fun _ _ => True)
def pp_640461_StringBuilder_setLength (D : va_G) (I : FieldType → ClassId) (P640452 : List Nat) (F640453 : Nat → va_E) (q640454 : Nat) (q640455 : Nat) (p640456 : Int32) (p640457 : Int32) (f640458 : Nat → Int32) (n640459 : Nat) : Option Value → va_W → Nat → Nat → Prop := fun r w dc ds => ∃ (F640519 : Nat → va_E) (o640517 : Int32), r = none ∧ w = va_pl P640452 F640519 ∧ rFr [q640454] P640452 F640453 F640519 ∧ F640519 q640454 = .inr (1, [.ref q640455, .int 0, .int o640517, .int 0]) ∧ F640519 q640455 = .inl (I .byte, n640459, .inl f640458) ∧ dc ≤ 0 ∧ ds ≤ 0 ∧ gB o640517 0 1 ∧ 0 = 0
set_option maxRecDepth 100000 in
set_option maxHeartbeats 4000000 in
theorem cp_640461_StringBuilder_setLength (l : Launch) (hl0 : l.stackTraces = false) (D : va_G) (I : FieldType → ClassId) (P640452 : List Nat) (F640453 : Nat → va_E) (q640454 : Nat) (q640455 : Nat) (p640456 : Int32) (p640457 : Int32) (f640458 : Nat → Int32) (n640459 : Nat) (hmq640454 : q640454 ∈ P640452) (hmq640455 : q640455 ∈ P640452) (heq640454 : F640453 q640454 = .inr (1, [.ref q640455, .int 0, .int p640456, .int p640457])) (heq640455 : F640453 q640455 = .inl (I .byte, n640459, .inl f640458)) (bp640456 : gB p640456 0 1) (bp640457 : gB p640457 0 16777216) (bf640458 : gF f640458 (-128) 127) (x640460 : ((n640459 : Int) ≤ 16777216)) : CtA (gV D I) l yJ4_setLength_d00df cJ4_setLength_d00df 2 none 2 43 0 0 [.ref q640454, .int 0] (va_pl P640452 F640453) (pp_640461_StringBuilder_setLength D I P640452 F640453 q640454 q640455 p640456 p640457 f640458 n640459) gNA := by
  refine CtA_ofF hl0 (by decide +kernel) (Nat.le_of_ble_eq_true rfl) ?_
  refine G_aload_n 0 dr_cJ4_setLength_d00df_0 rfl ?_
  refine G_iload_n 1 dr_cJ4_setLength_d00df_1 rfl ?_
  refine Gw_callSU (As := [.int 0]) (gV_ok D I) (cp_640471_AbstractStringBuilder_setLength l hl0 D I P640452 F640453 q640454 q640455 p640456 p640457 f640458 n640459 hmq640454 hmq640455 heq640454 heq640455 bp640456 bp640457 bf640458 (by have qa0 : Int32.toInt 0 = 0 := (by decide); omega)) dr_cJ4_setLength_d00df_2 ⟨wr_11_129, wr_1_19, wr_11_131, by decide, rfl, (Nat.le_of_ble_eq_true rfl), (Nat.le_of_ble_eq_true rfl)⟩ wr_11_130 wr_11_233 wr_7_73 wr_7_44 (by decide) hmq640454 heq640454 rfl (show 0 + 0 ≤ 0 by first | omega | decide) (show 0 + 0 ≤ 0 by first | omega | decide) (Nat.le_of_ble_eq_true rfl) (fun r640507 w640508 dc640504 ds640505 hp640506 => ?_)
  obtain ⟨F640511, o640509, rfl, rfl, hfr640513, he640514, he640515, hdc, hds, bo640509, x640510⟩ := hp640506
  have hfr640516 : rFr [q640454] P640452 F640453 F640511 := rFr_call (rSub_rf (P := P640452)) (rFr_rf (W := []) (P := P640452) (F := F640453)) hfr640513 (fun b hb hn => ⟨nm_n, (nm_c (fun e => hn (e ▸ List.mem_cons_self)) nm_n)⟩)
  change G _ _ _ _ _ _ _ _ _ _ _
  refine G_widen (cs' := 0) (sl' := 0) (by omega) (by omega) ?_
  exact G_vretA dr_cJ4_setLength_d00df_5 rfl (Nat.le_of_ble_eq_true rfl) (Nat.le_of_ble_eq_true rfl) ⟨F640511, o640509, rfl, rfl, hfr640516, he640514, he640515, (Nat.le_of_ble_eq_true rfl), (Nat.le_of_ble_eq_true rfl), bo640509, (by have qa0 : Int32.toInt 0 = 0 := (by decide); omega)⟩
abbrev ky_640531_AbstractStringBuilder_init : gKey := (cJ5_init_d00df, 2, "java/lang/AbstractStringBuilder", none, [], "<init>", fun _ _ => True)
def pp_640531_AbstractStringBuilder_init (D : va_G) (I : FieldType → ClassId) (P640526 : List Nat) (F640527 : Nat → va_E) (q640528 : Nat) (p640529 : Int32) (p640530 : Int32) : Option Value → va_W → Nat → Nat → Prop := fun r w dc ds => ∃ (P640559 : List Nat) (F640560 : Nat → va_E) (q640558 : Nat), r = none ∧ w = va_pl P640559 F640560 ∧ rSub P640526 P640559 ∧ rFr [q640528] P640526 F640527 F640560 ∧ F640560 q640528 = .inr (1, [.ref q640558, .int 0, .int p640529, .int p640530]) ∧ F640560 q640558 = .inl (I .byte, 16, .inl (fun _ => 0)) ∧ q640558 ∈ P640559 ∧ q640558 ∉ P640526 ∧ dc ≤ 1 ∧ ds ≤ 16
set_option maxRecDepth 100000 in
set_option maxHeartbeats 4000000 in
theorem cp_640531_AbstractStringBuilder_init (l : Launch) (hl0 : l.stackTraces = false) (D : va_G) (I : FieldType → ClassId) (P640526 : List Nat) (F640527 : Nat → va_E) (q640528 : Nat) (p640529 : Int32) (p640530 : Int32) (hmq640528 : q640528 ∈ P640526) (heq640528 : F640527 q640528 = .inr (1, [.null, .int 0, .int p640529, .int p640530])) (bp640529 : gB p640529 0 1) (bp640530 : gB p640530 0 16777216) : CtA (gV D I) l yJ5_init_d00df cJ5_init_d00df 2 none 1 12 1 16 [.ref q640528, .int 16] (va_pl P640526 F640527) (pp_640531_AbstractStringBuilder_init D I P640526 F640527 q640528 p640529 p640530) gNA := by
  refine CtA_ofF hl0 (by decide +kernel) (Nat.le_of_ble_eq_true rfl) ?_
  refine G_aload_n 0 dr_cJ5_init_d00df_0 rfl ?_
  refine G_obj dr_cJ5_init_d00df_1 wr_7_51 wr_1_51 wr_1_52 (Nat.le_of_ble_eq_true rfl) (Nat.le_of_ble_eq_true rfl) ?_
  refine G_gets dr_cJ5_init_d00df_4 wr_7_52 gz_cs (fun x hx => ?_)
  subst hx
  refine G_if_eq 25 dr_cJ5_init_d00df_7 (by decide +kernel) (fun hc => absurd hc (by decide)) (fun _ => ?_)
  refine G_aload_n 0 dr_cJ5_init_d00df_10 rfl ?_
  refine G_iload_n 1 dr_cJ5_init_d00df_11 rfl ?_
  refine G_newa 1 (16, .inl (fun _ => 0)) dr_cJ5_init_d00df_12 rfl rfl (by intro C h; cases h) wr_1_66 (fun _ => ga_byte _ _) (by decide) (by decide) (by decide) (show 0 + 1 ≤ 1 by first | omega | decide) (show 0 + 16 ≤ 16 by first | omega | decide) (fun q640532 => Gp_in (fun P640533 F640534 hq640535 hP640536 e640537 n640538 => ?_))
  refine G_widen (cs' := 1) (sl' := 16) (by omega) (by omega) ?_
  have he640539 : F640534 q640528 = .inr (1, [.null, .int 0, .int p640529, .int p640530]) := (n640538 q640528 (fun h => hq640535 (h ▸ hmq640528))).trans heq640528
  have he640540 : F640534 q640532 = .inl (I .byte, 16, .inl (fun _ => 0)) := e640537
  have hm640541 : q640528 ∈ P640533 := (hP640536 q640528).mpr (Or.inl hmq640528)
  have hm640542 : q640532 ∈ P640533 := (hP640536 q640532).mpr (Or.inr rfl)
  have hq640543 : q640532 ∉ P640526 := fun z => hq640535 ((rSub_rf (P := P640526)) q640532 z)
  have hfr640544 : rFr [] P640526 F640527 F640534 := rFr_new (rSub_rf (P := P640526)) hq640535 (rFr_rf (W := []) (P := P640526) (F := F640527)) n640538
  have hsb640545 : rSub P640526 P640533 := rSub_new (rSub_rf (P := P640526)) hP640536
  refine Gp_put 0 hm640541 he640539 dr_cJ5_init_d00df_14 (gk_J4 D I) (Nat.le_of_ble_eq_true rfl) wr_7_60 rfl rfl rfl (Nat.le_of_ble_eq_true rfl) (fun F640546 e640547 n640548 => ?_)
  have he640549 : F640546 q640532 = .inl (I .byte, 16, .inl (fun _ => 0)) := (n640548 q640532 (fun h => hq640543 (h ▸ hmq640528))).trans he640540
  have he640550 : F640546 q640528 = .inr (1, [.ref q640532, .int 0, .int p640529, .int p640530]) := e640547
  have hfr640551 : rFr [q640528] P640526 F640527 F640546 := rFr_put hfr640544 n640548
  refine G_aload_n 0 dr_cJ5_init_d00df_17 rfl ?_
  refine G_iconst 0 dr_cJ5_init_d00df_18 (by decide +kernel) ?_
  refine Gp_put 1 hm640541 he640550 dr_cJ5_init_d00df_19 (gk_J4 D I) (Nat.le_of_ble_eq_true rfl) wr_7_61 rfl rfl rfl (Nat.le_of_ble_eq_true rfl) (fun F640552 e640553 n640554 => ?_)
  have he640555 : F640552 q640532 = .inl (I .byte, 16, .inl (fun _ => 0)) := (n640554 q640532 (fun h => hq640543 (h ▸ hmq640528))).trans he640549
  have he640556 : F640552 q640528 = .inr (1, [.ref q640532, .int 0, .int p640529, .int p640530]) := e640553
  have hfr640557 : rFr [q640528] P640526 F640527 F640552 := rFr_put' List.mem_cons_self hfr640551 n640554
  refine G_goto 38 dr_cJ5_init_d00df_22 (by decide +kernel) ?_
  exact G_vretA dr_cJ5_init_d00df_38 rfl (Nat.le_of_ble_eq_true rfl) (Nat.le_of_ble_eq_true rfl) ⟨P640533, F640552, q640532, rfl, rfl, hsb640545, hfr640557, he640556, he640555, hm640542, hq640543, (Nat.le_of_ble_eq_true rfl), (Nat.le_of_ble_eq_true rfl)⟩
abbrev ky_640525_StringBuilder_init : gKey := (cJ4_init_da8c8, 1, "java/lang/StringBuilder", none, [], "<init>", fun _ _ => True)
def pp_640525_StringBuilder_init (D : va_G) (I : FieldType → ClassId) (P640520 : List Nat) (F640521 : Nat → va_E) (q640522 : Nat) (p640523 : Int32) (p640524 : Int32) : Option Value → va_W → Nat → Nat → Prop := fun r w dc ds => ∃ (P640580 : List Nat) (F640581 : Nat → va_E) (q640579 : Nat), r = none ∧ w = va_pl P640580 F640581 ∧ rSub P640520 P640580 ∧ rFr [q640522] P640520 F640521 F640581 ∧ F640581 q640522 = .inr (1, [.ref q640579, .int 0, .int p640523, .int p640524]) ∧ F640581 q640579 = .inl (I .byte, 16, .inl (fun _ => 0)) ∧ q640579 ∈ P640580 ∧ q640579 ∉ P640520 ∧ dc ≤ 1 ∧ ds ≤ 16
set_option maxRecDepth 100000 in
set_option maxHeartbeats 4000000 in
theorem cp_640525_StringBuilder_init (l : Launch) (hl0 : l.stackTraces = false) (D : va_G) (I : FieldType → ClassId) (P640520 : List Nat) (F640521 : Nat → va_E) (q640522 : Nat) (p640523 : Int32) (p640524 : Int32) (hmq640522 : q640522 ∈ P640520) (heq640522 : F640521 q640522 = .inr (1, [.null, .int 0, .int p640523, .int p640524])) (bp640523 : gB p640523 0 1) (bp640524 : gB p640524 0 16777216) : CtA (gV D I) l yJ4_init_da8c8 cJ4_init_da8c8 1 none 2 33 1 16 [.ref q640522] (va_pl P640520 F640521) (pp_640525_StringBuilder_init D I P640520 F640521 q640522 p640523 p640524) gNA := by
  refine CtA_ofF hl0 (by decide +kernel) (Nat.le_of_ble_eq_true rfl) ?_
  refine G_aload_n 0 dr_cJ4_init_da8c8_0 rfl ?_
  refine G_bipush 16 dr_cJ4_init_da8c8_1 (by decide +kernel) ?_
  refine Gw_callI (As := [.int 16]) (gV_ok D I) (cp_640531_AbstractStringBuilder_init l hl0 D I P640520 F640521 q640522 p640523 p640524 hmq640522 heq640522 bp640523 bp640524) dr_cJ4_init_da8c8_3 ⟨wr_7_48, wr_1_19, wr_7_50, by decide, rfl, (Nat.le_of_ble_eq_true rfl), (Nat.le_of_ble_eq_true rfl)⟩ wr_7_49 rfl (show 0 + 1 ≤ 1 by first | omega | decide) (show 0 + 16 ≤ 16 by first | omega | decide) (Nat.le_of_ble_eq_true rfl) (fun r640564 w640565 dc640561 ds640562 hp640563 => ?_)
  obtain ⟨P640567, F640568, q640566, rfl, rfl, hsb640569, hfr640570, he640571, he640572, hm640573, hq640574, hdc, hds⟩ := hp640563
  have hm640575 : q640522 ∈ P640567 := hsb640569 q640522 hmq640522
  have hq640576 : q640566 ∉ P640520 := fun z => hq640574 ((rSub_rf (P := P640520)) q640566 z)
  have hsb640577 : rSub P640520 P640567 := rSub_tr (rSub_rf (P := P640520)) hsb640569
  have hfr640578 : rFr [q640522] P640520 F640521 F640568 := rFr_call (rSub_rf (P := P640520)) (rFr_rf (W := []) (P := P640520) (F := F640521)) hfr640570 (fun b hb hn => ⟨nm_n, (nm_c (fun e => hn (e ▸ List.mem_cons_self)) nm_n)⟩)
  change G _ _ _ _ _ _ _ _ _ _ _
  refine G_widen (cs' := 1) (sl' := 16) (by omega) (by omega) ?_
  exact G_vretA dr_cJ4_init_da8c8_6 rfl (Nat.le_of_ble_eq_true rfl) (Nat.le_of_ble_eq_true rfl) ⟨P640567, F640568, q640566, rfl, rfl, hsb640577, hfr640578, he640571, he640572, hm640573, hq640576, (Nat.le_of_ble_eq_true rfl), (Nat.le_of_ble_eq_true rfl)⟩
abbrev ky_640638_String_coder : gKey := (cJ0_coder_7d493, 1, "java/lang/String", (some FieldType.byte), [], "coder", fun _ _ => True)
def pp_640638_String_coder (D : va_G) (I : FieldType → ClassId) (P640629 : List Nat) (F640630 : Nat → va_E) (q640631 : Nat) (q640632 : Nat) (p640633 : Int32) (p640634 : Int32) (f640635 : Nat → Int32) (n640636 : Nat) : Option Value → va_W → Nat → Nat → Prop := fun r w dc ds => r = some (.int 0) ∧ w = va_pl P640629 F640630 ∧ dc ≤ 0 ∧ ds ≤ 0
set_option maxRecDepth 100000 in
set_option maxHeartbeats 4000000 in
theorem cp_640638_String_coder (l : Launch) (hl0 : l.stackTraces = false) (D : va_G) (I : FieldType → ClassId) (P640629 : List Nat) (F640630 : Nat → va_E) (q640631 : Nat) (q640632 : Nat) (p640633 : Int32) (p640634 : Int32) (f640635 : Nat → Int32) (n640636 : Nat) (hmq640631 : q640631 ∈ P640629) (hmq640632 : q640632 ∈ P640629) (heq640631 : F640630 q640631 = .inr (0, [.ref q640632, .int 0, .int p640633, .int p640634])) (heq640632 : F640630 q640632 = .inl (I .byte, n640636, .inl f640635)) (bp640634 : gB p640634 0 1) (bf640635 : gF f640635 (-128) 127) (x640637 : ((n640636 : Int) ≤ 16777216)) : CtA (gV D I) l yJ0_coder_7d493 cJ0_coder_7d493 1 (some FieldType.byte) 0 0 0 0 [.ref q640631] (va_pl P640629 F640630) (pp_640638_String_coder D I P640629 F640630 q640631 q640632 p640633 p640634 f640635 n640636) gNA := by
  refine CtA_ofF hl0 (by decide +kernel) (Nat.le_of_ble_eq_true rfl) ?_
  have bp640633 := gB_any p640633
  refine G_gets dr_cJ0_coder_7d493_0 wr_3_65 gz_cs (fun x hx => ?_)
  subst hx
  refine G_if_eq 13 dr_cJ0_coder_7d493_3 (by decide +kernel) (fun hc => absurd hc (by decide)) (fun _ => ?_)
  refine G_aload_n 0 dr_cJ0_coder_7d493_6 rfl ?_
  refine Gp_get 1 hmq640631 heq640631 dr_cJ0_coder_7d493_7 (gk_J0 D I) (Nat.le_of_ble_eq_true rfl) wr_8_183 rfl ?_
  refine G_goto 14 dr_cJ0_coder_7d493_10 (by decide +kernel) ?_
  exact G_zretA FieldType.byte dr_cJ0_coder_7d493_14 rfl rfl (Nat.le_of_ble_eq_true rfl) (Nat.le_of_ble_eq_true rfl) ⟨rfl, rfl, (Nat.le_of_ble_eq_true rfl), (Nat.le_of_ble_eq_true rfl)⟩
abbrev ky_640627_String_length : gKey := (cJ0_length_8abf5, 1, "java/lang/String", (some FieldType.int), [], "length", fun _ _ => True)
def pp_640627_String_length (D : va_G) (I : FieldType → ClassId) (P640618 : List Nat) (F640619 : Nat → va_E) (q640620 : Nat) (q640621 : Nat) (p640622 : Int32) (p640623 : Int32) (f640624 : Nat → Int32) (n640625 : Nat) : Option Value → va_W → Nat → Nat → Prop := fun r w dc ds => ∃ (o640645 : Int32), r = some (.int o640645) ∧ w = va_pl P640618 F640619 ∧ dc ≤ 0 ∧ ds ≤ 0 ∧ gB o640645 0 16777216 ∧ o640645.toInt = (n640625 : Int)
set_option maxRecDepth 100000 in
set_option maxHeartbeats 4000000 in
theorem cp_640627_String_length (l : Launch) (hl0 : l.stackTraces = false) (D : va_G) (I : FieldType → ClassId) (P640618 : List Nat) (F640619 : Nat → va_E) (q640620 : Nat) (q640621 : Nat) (p640622 : Int32) (p640623 : Int32) (f640624 : Nat → Int32) (n640625 : Nat) (hmq640620 : q640620 ∈ P640618) (hmq640621 : q640621 ∈ P640618) (heq640620 : F640619 q640620 = .inr (0, [.ref q640621, .int 0, .int p640622, .int p640623])) (heq640621 : F640619 q640621 = .inl (I .byte, n640625, .inl f640624)) (bp640623 : gB p640623 0 1) (bf640624 : gF f640624 (-128) 127) (x640626 : ((n640625 : Int) ≤ 16777216)) : CtA (gV D I) l yJ0_length_8abf5 cJ0_length_8abf5 1 (some FieldType.int) 1 20 0 0 [.ref q640620] (va_pl P640618 F640619) (pp_640627_String_length D I P640618 F640619 q640620 q640621 p640622 p640623 f640624 n640625) gNA := by
  refine CtA_ofF hl0 (by decide +kernel) (Nat.le_of_ble_eq_true rfl) ?_
  have bp640622 := gB_any p640622
  refine G_aload_n 0 dr_cJ0_length_8abf5_0 rfl ?_
  refine Gp_get 0 hmq640620 heq640620 dr_cJ0_length_8abf5_1 (gk_J0 D I) (Nat.le_of_ble_eq_true rfl) wr_8_182 rfl ?_
  refine Gp_alen (Int32.ofNat n640625) 1 hmq640621 heq640621 dr_cJ0_length_8abf5_4 rfl rfl (G_nam fun z640628 hz640628 => ?_)
  have ez640628 : z640628.toInt = (n640625 : Nat) := gI_ofM hz640628 (by omega)
  have bz640628 : gB z640628 0 16777216 := ⟨by omega, by omega⟩
  refine G_aload_n 0 dr_cJ0_length_8abf5_5 rfl ?_
  refine Gw_callV (As := []) (gV_ok D I) (cp_640638_String_coder l hl0 D I P640618 F640619 q640620 q640621 p640622 p640623 f640624 n640625 hmq640620 hmq640621 heq640620 heq640621 bp640623 bf640624 (by have qa0 : Int32.toInt 0 = 0 := (by decide); omega)) dr_cJ0_length_8abf5_6 ⟨wr_3_61, wr_1_21, wr_3_64, by decide, rfl, (Nat.le_of_ble_eq_true rfl), (Nat.le_of_ble_eq_true rfl)⟩ wr_3_62 wr_3_63 hmq640620 heq640620 rfl (show 0 + 0 ≤ 0 by first | omega | decide) (show 0 + 0 ≤ 0 by first | omega | decide) (Nat.le_of_ble_eq_true rfl) (fun r640642 w640643 dc640639 ds640640 hp640641 => ?_) (fun _ _ _ _ _ z => z.elim)
  obtain ⟨rfl, rfl, hdc, hds⟩ := hp640641
  change G _ _ _ _ _ _ _ (.int 0 :: _) _ _ _
  refine G_widen (cs' := 0) (sl' := 0) (by omega) (by omega) ?_
  refine G_ishr dr_cJ0_length_8abf5_9 (G_nam fun z640644 hz640644 => ?_)
  have ez640644 : z640644.toInt = z640628.toInt / 1 := gI_shr (k := 0) hz640644 (by decide)
  have bz640644 : gB z640644 0 16777216 := ⟨by omega, by omega⟩
  exact G_iretA dr_cJ0_length_8abf5_10 rfl (Nat.le_of_ble_eq_true rfl) (Nat.le_of_ble_eq_true rfl) ⟨z640644, rfl, rfl, (Nat.le_of_ble_eq_true rfl), (Nat.le_of_ble_eq_true rfl), bz640644, (by have qa0 : Int32.toInt 0 = 0 := (by decide); omega)⟩
abbrev ky_640694_AbstractStringBuilder_inflateIfNeededFor : gKey := (cJ5_inflateIfNeededFor_a7421, 2, "java/lang/AbstractStringBuilder", none, [], "inflateIfNeededFor", fun _ _ => True)
def pp_640694_AbstractStringBuilder_inflateIfNeededFor (D : va_G) (I : FieldType → ClassId) (P640678 : List Nat) (F640679 : Nat → va_E) (q640680 : Nat) (q640681 : Nat) (q640682 : Nat) (q640683 : Nat) (p640684 : Int32) (p640685 : Int32) (p640686 : Int32) (p640687 : Int32) (f640688 : Nat → Int32) (n640689 : Nat) (f640690 : Nat → Int32) (n640691 : Nat) : Option Value → va_W → Nat → Nat → Prop := fun r w dc ds => r = none ∧ w = va_pl P640678 F640679 ∧ dc ≤ 0 ∧ ds ≤ 0
set_option maxRecDepth 100000 in
set_option maxHeartbeats 4000000 in
theorem cp_640694_AbstractStringBuilder_inflateIfNeededFor (l : Launch) (hl0 : l.stackTraces = false) (D : va_G) (I : FieldType → ClassId) (P640678 : List Nat) (F640679 : Nat → va_E) (q640680 : Nat) (q640681 : Nat) (q640682 : Nat) (q640683 : Nat) (p640684 : Int32) (p640685 : Int32) (p640686 : Int32) (p640687 : Int32) (f640688 : Nat → Int32) (n640689 : Nat) (f640690 : Nat → Int32) (n640691 : Nat) (hmq640680 : q640680 ∈ P640678) (hmq640681 : q640681 ∈ P640678) (hmq640682 : q640682 ∈ P640678) (hmq640683 : q640683 ∈ P640678) (heq640680 : F640679 q640680 = .inr (1, [.ref q640682, .int 0, .int p640684, .int p640685])) (heq640681 : F640679 q640681 = .inr (0, [.ref q640683, .int 0, .int p640686, .int p640687])) (heq640682 : F640679 q640682 = .inl (I .byte, n640689, .inl f640688)) (heq640683 : F640679 q640683 = .inl (I .byte, n640691, .inl f640690)) (hneq640682q640683 : q640682 ≠ q640683) (bp640684 : gB p640684 0 1) (bp640685 : gB p640685 0 16777216) (bp640687 : gB p640687 0 1) (bf640688 : gF f640688 (-128) 127) (bf640690 : gF f640690 (-128) 127) (x640692 : ((n640689 : Int) ≤ 16777216)) (x640693 : ((n640691 : Int) ≤ 16777216)) : CtA (gV D I) l yJ5_inflateIfNeededFor_a7421 cJ5_inflateIfNeededFor_a7421 2 none 1 20 0 0 [.ref q640680, .ref q640681] (va_pl P640678 F640679) (pp_640694_AbstractStringBuilder_inflateIfNeededFor D I P640678 F640679 q640680 q640681 q640682 q640683 p640684 p640685 p640686 p640687 f640688 n640689 f640690 n640691) gNA := by
  refine CtA_ofF hl0 (by decide +kernel) (Nat.le_of_ble_eq_true rfl) ?_
  have bp640686 := gB_any p640686
  refine G_gets dr_cJ5_inflateIfNeededFor_a7421_0 wr_7_52 gz_cs (fun x hx => ?_)
  subst hx
  refine G_if_eq 21 dr_cJ5_inflateIfNeededFor_a7421_3 (by decide +kernel) (fun hc => absurd hc (by decide)) (fun _ => ?_)
  refine G_aload_n 0 dr_cJ5_inflateIfNeededFor_a7421_6 rfl ?_
  refine Gp_get 1 hmq640680 heq640680 dr_cJ5_inflateIfNeededFor_a7421_7 (gk_J4 D I) (Nat.le_of_ble_eq_true rfl) wr_7_61 rfl ?_
  refine G_aload_n 1 dr_cJ5_inflateIfNeededFor_a7421_10 rfl ?_
  refine Gw_callV (As := []) (gV_ok D I) (cp_640638_String_coder l hl0 D I P640678 F640679 q640681 q640683 p640686 p640687 f640690 n640691 hmq640681 hmq640683 heq640681 heq640683 bp640687 bf640690 (by have qa0 : Int32.toInt 0 = 0 := (by decide); omega)) dr_cJ5_inflateIfNeededFor_a7421_11 ⟨wr_8_163, wr_1_21, wr_3_64, by decide, rfl, (Nat.le_of_ble_eq_true rfl), (Nat.le_of_ble_eq_true rfl)⟩ wr_3_62 wr_3_63 hmq640681 heq640681 rfl (show 0 + 0 ≤ 0 by first | omega | decide) (show 0 + 0 ≤ 0 by first | omega | decide) (Nat.le_of_ble_eq_true rfl) (fun r640698 w640699 dc640695 ds640696 hp640697 => ?_) (fun _ _ _ _ _ z => z.elim)
  obtain ⟨rfl, rfl, hdc, hds⟩ := hp640697
  change G _ _ _ _ _ _ _ (.int 0 :: _) _ _ _
  refine G_widen (cs' := 0) (sl' := 0) (by omega) (by omega) ?_
  refine G_icmp_eq 21 dr_cJ5_inflateIfNeededFor_a7421_14 (by decide +kernel) (fun _ => ?_) (fun hc => absurd hc (by decide))
  exact G_vretA dr_cJ5_inflateIfNeededFor_a7421_21 rfl (Nat.le_of_ble_eq_true rfl) (Nat.le_of_ble_eq_true rfl) ⟨rfl, rfl, (Nat.le_of_ble_eq_true rfl), (Nat.le_of_ble_eq_true rfl)⟩
abbrev ky_640720_String_getBytes : gKey := (cJ0_getBytes_840e7, 4, "java/lang/String", none, [], "getBytes", fun _ _ => True)
def pp_640720_String_getBytes (D : va_G) (I : FieldType → ClassId) (P640705 : List Nat) (F640706 : Nat → va_E) (q640707 : Nat) (q640708 : Nat) (q640709 : Nat) (p640710 : Int32) (p640711 : Int32) (p640712 : Int32) (f640713 : Nat → Int32) (n640714 : Nat) (f640715 : Nat → Int32) (n640716 : Nat) : Option Value → va_W → Nat → Nat → Prop := fun r w dc ds => ∃ (F640738 : Nat → va_E) (f640736 : Nat → Int32), r = none ∧ w = va_pl P640705 F640738 ∧ rFr [q640708] P640705 F640706 F640738 ∧ F640738 q640707 = .inr (0, [.ref q640709, .int 0, .int p640711, .int p640712]) ∧ F640738 q640708 = .inl (I .byte, n640714, .inl f640736) ∧ F640738 q640709 = .inl (I .byte, n640716, .inl f640715) ∧ dc ≤ 0 ∧ ds ≤ 0 ∧ gF f640736 (-128) 127 ∧ sK f640713 f640736 p640710.toInt ∧ sF f640715 f640736 p640710.toInt (n640716 : Int)
set_option maxRecDepth 100000 in
set_option maxHeartbeats 4000000 in
theorem cp_640720_String_getBytes (l : Launch) (hl0 : l.stackTraces = false) (D : va_G) (I : FieldType → ClassId) (P640705 : List Nat) (F640706 : Nat → va_E) (q640707 : Nat) (q640708 : Nat) (q640709 : Nat) (p640710 : Int32) (p640711 : Int32) (p640712 : Int32) (f640713 : Nat → Int32) (n640714 : Nat) (f640715 : Nat → Int32) (n640716 : Nat) (hmq640707 : q640707 ∈ P640705) (hmq640708 : q640708 ∈ P640705) (hmq640709 : q640709 ∈ P640705) (heq640707 : F640706 q640707 = .inr (0, [.ref q640709, .int 0, .int p640711, .int p640712])) (heq640708 : F640706 q640708 = .inl (I .byte, n640714, .inl f640713)) (heq640709 : F640706 q640709 = .inl (I .byte, n640716, .inl f640715)) (hneq640708q640709 : q640708 ≠ q640709) (bp640710 : gB p640710 0 16777216) (bp640712 : gB p640712 0 1) (bf640713 : gF f640713 (-128) 127) (bf640715 : gF f640715 (-128) 127) (x640717 : p640710.toInt + (n640716 : Int) ≤ (n640714 : Int)) (x640718 : ((n640714 : Int) ≤ 16777216)) (x640719 : ((n640716 : Int) ≤ 16777216)) : CtA (gV D I) l yJ0_getBytes_840e7 cJ0_getBytes_840e7 4 none 1 20 0 0 [.ref q640707, .ref q640708, .int p640710, .int 0] (va_pl P640705 F640706) (pp_640720_String_getBytes D I P640705 F640706 q640707 q640708 q640709 p640710 p640711 p640712 f640713 n640714 f640715 n640716) gNA := by
  refine CtA_ofF hl0 (by decide +kernel) (Nat.le_of_ble_eq_true rfl) ?_
  have bp640711 := gB_any p640711
  refine G_aload_n 0 dr_cJ0_getBytes_840e7_0 rfl ?_
  refine Gw_callV (As := []) (gV_ok D I) (cp_640638_String_coder l hl0 D I P640705 F640706 q640707 q640709 p640711 p640712 f640715 n640716 hmq640707 hmq640709 heq640707 heq640709 bp640712 bf640715 (by have qa0 : Int32.toInt 0 = 0 := (by decide); omega)) dr_cJ0_getBytes_840e7_1 ⟨wr_3_61, wr_1_21, wr_3_64, by decide, rfl, (Nat.le_of_ble_eq_true rfl), (Nat.le_of_ble_eq_true rfl)⟩ wr_3_62 wr_3_63 hmq640707 heq640707 rfl (show 0 + 0 ≤ 0 by first | omega | decide) (show 0 + 0 ≤ 0 by first | omega | decide) (Nat.le_of_ble_eq_true rfl) (fun r640724 w640725 dc640721 ds640722 hp640723 => ?_) (fun _ _ _ _ _ z => z.elim)
  obtain ⟨rfl, rfl, hdc, hds⟩ := hp640723
  change G _ _ _ _ _ _ _ (.int 0 :: _) _ _ _
  refine G_widen (cs' := 0) (sl' := 0) (by omega) (by omega) ?_
  refine G_iload_n 3 dr_cJ0_getBytes_840e7_4 rfl ?_
  refine G_icmp_ne 28 dr_cJ0_getBytes_840e7_5 (by decide +kernel) (fun hc => absurd hc (by decide)) (fun _ => ?_)
  refine G_aload_n 0 dr_cJ0_getBytes_840e7_8 rfl ?_
  refine Gp_get 0 hmq640707 heq640707 dr_cJ0_getBytes_840e7_9 (gk_J0 D I) (Nat.le_of_ble_eq_true rfl) wr_8_182 rfl ?_
  refine G_iconst 0 dr_cJ0_getBytes_840e7_12 (by decide +kernel) ?_
  refine G_aload_n 1 dr_cJ0_getBytes_840e7_13 rfl ?_
  refine G_iload_n 2 dr_cJ0_getBytes_840e7_14 rfl ?_
  refine G_iload_n 3 dr_cJ0_getBytes_840e7_15 rfl ?_
  refine G_ishl dr_cJ0_getBytes_840e7_16 (G_nam fun z640726 hz640726 => ?_)
  have ez640726 : z640726.toInt = p640710.toInt * 1 := gI_shl (k := 0) hz640726 (by decide) bp640710 (by decide) (by decide)
  have bz640726 : gB z640726 0 16777216 := ⟨by omega, by omega⟩
  refine G_aload_n 0 dr_cJ0_getBytes_840e7_17 rfl ?_
  refine Gp_get 0 hmq640707 heq640707 dr_cJ0_getBytes_840e7_18 (gk_J0 D I) (Nat.le_of_ble_eq_true rfl) wr_8_182 rfl ?_
  refine Gp_alen (Int32.ofNat n640716) 1 hmq640709 heq640709 dr_cJ0_getBytes_840e7_21 rfl rfl (G_nam fun z640727 hz640727 => ?_)
  have ez640727 : z640727.toInt = (n640716 : Nat) := gI_ofM hz640727 (by omega)
  have bz640727 : gB z640727 0 16777216 := ⟨by omega, by omega⟩
  refine Gp_copyp 1 hmq640709 hmq640708 heq640709 heq640708 dr_cJ0_getBytes_840e7_22 wr_8_168 wr_5_113 wr_5_112 wr_1_34 rfl rfl (fun j => gT_byte (bf640715 j)) (by decide) (by omega) (by omega) (by have qa0 : Int32.toInt 0 = 0 := (by decide); omega) (by have qa0 : Int32.toInt 0 = 0 := (by decide); omega) (Nat.le_of_ble_eq_true rfl) (Nat.le_of_ble_eq_true rfl) (fun F640728 e640729 n640730 => ?_)
  obtain ⟨f640731, hf640731⟩ : ∃ z, z = va_cpy f640715 f640713 (0 : Int32).toNatClampNeg z640726.toNatClampNeg z640727.toNatClampNeg := ⟨_, rfl⟩
  rw [← hf640731] at e640729
  have bf640731 : gF f640731 (-128) 127 := gF_cpy hf640731 bf640715 bf640713
  have he640732 : F640728 q640707 = .inr (0, [.ref q640709, .int 0, .int p640711, .int p640712]) := (n640730 q640707 (rn_oa heq640707 heq640708)).trans heq640707
  have he640733 : F640728 q640709 = .inl (I .byte, n640716, .inl f640715) := (n640730 q640709 (Ne.symm hneq640708q640709)).trans heq640709
  have he640734 : F640728 q640708 = .inl (I .byte, n640714, .inl f640731) := e640729
  have hfr640735 : rFr [q640708] P640705 F640706 F640728 := rFr_put (rFr_rf (W := []) (P := P640705) (F := F640706)) n640730
  refine G_goto 43 dr_cJ0_getBytes_840e7_25 (by decide +kernel) ?_
  exact G_vretA dr_cJ0_getBytes_840e7_43 rfl (Nat.le_of_ble_eq_true rfl) (Nat.le_of_ble_eq_true rfl) ⟨F640728, f640731, rfl, rfl, hfr640735, he640732, he640734, he640733, (Nat.le_of_ble_eq_true rfl), (Nat.le_of_ble_eq_true rfl), bf640731, (sK_cpy hf640731 (by omega)), (sF_cpy hf640731 (by decide) (by omega) (by omega))⟩
abbrev ky_640677_AbstractStringBuilder_putStringAt : gKey := (cJ5_putStringAt_47b60, 3, "java/lang/AbstractStringBuilder", none, [], "putStringAt", fun _ _ => True)
def pp_640677_AbstractStringBuilder_putStringAt (D : va_G) (I : FieldType → ClassId) (P640659 : List Nat) (F640660 : Nat → va_E) (q640661 : Nat) (q640662 : Nat) (q640663 : Nat) (q640664 : Nat) (p640665 : Int32) (p640666 : Int32) (p640667 : Int32) (p640668 : Int32) (p640669 : Int32) (f640670 : Nat → Int32) (n640671 : Nat) (f640672 : Nat → Int32) (n640673 : Nat) : Option Value → va_W → Nat → Nat → Prop := fun r w dc ds => ∃ (F640757 : Nat → va_E) (f640755 : Nat → Int32), r = none ∧ w = va_pl P640659 F640757 ∧ rFr [q640663] P640659 F640660 F640757 ∧ F640757 q640661 = .inr (1, [.ref q640663, .int 0, .int p640666, .int p640667]) ∧ F640757 q640662 = .inr (0, [.ref q640664, .int 0, .int p640668, .int p640669]) ∧ F640757 q640663 = .inl (I .byte, n640671, .inl f640755) ∧ F640757 q640664 = .inl (I .byte, n640673, .inl f640672) ∧ dc ≤ 0 ∧ ds ≤ 0 ∧ gF f640755 (-128) 127 ∧ sK f640670 f640755 p640665.toInt ∧ sF f640672 f640755 p640665.toInt (n640673 : Int)
set_option maxRecDepth 100000 in
set_option maxHeartbeats 4000000 in
theorem cp_640677_AbstractStringBuilder_putStringAt (l : Launch) (hl0 : l.stackTraces = false) (D : va_G) (I : FieldType → ClassId) (P640659 : List Nat) (F640660 : Nat → va_E) (q640661 : Nat) (q640662 : Nat) (q640663 : Nat) (q640664 : Nat) (p640665 : Int32) (p640666 : Int32) (p640667 : Int32) (p640668 : Int32) (p640669 : Int32) (f640670 : Nat → Int32) (n640671 : Nat) (f640672 : Nat → Int32) (n640673 : Nat) (hmq640661 : q640661 ∈ P640659) (hmq640662 : q640662 ∈ P640659) (hmq640663 : q640663 ∈ P640659) (hmq640664 : q640664 ∈ P640659) (heq640661 : F640660 q640661 = .inr (1, [.ref q640663, .int 0, .int p640666, .int p640667])) (heq640662 : F640660 q640662 = .inr (0, [.ref q640664, .int 0, .int p640668, .int p640669])) (heq640663 : F640660 q640663 = .inl (I .byte, n640671, .inl f640670)) (heq640664 : F640660 q640664 = .inl (I .byte, n640673, .inl f640672)) (hneq640663q640664 : q640663 ≠ q640664) (bp640665 : gB p640665 0 16777216) (bp640666 : gB p640666 0 1) (bp640667 : gB p640667 0 16777216) (bp640669 : gB p640669 0 1) (bf640670 : gF f640670 (-128) 127) (bf640672 : gF f640672 (-128) 127) (x640674 : p640665.toInt + (n640673 : Int) ≤ (n640671 : Int)) (x640675 : ((n640671 : Int) ≤ 16777216)) (x640676 : ((n640673 : Int) ≤ 16777216)) : CtA (gV D I) l yJ5_putStringAt_47b60 cJ5_putStringAt_47b60 3 none 2 43 0 0 [.ref q640661, .int p640665, .ref q640662] (va_pl P640659 F640660) (pp_640677_AbstractStringBuilder_putStringAt D I P640659 F640660 q640661 q640662 q640663 q640664 p640665 p640666 p640667 p640668 p640669 f640670 n640671 f640672 n640673) gNA := by
  refine CtA_ofF hl0 (by decide +kernel) (Nat.le_of_ble_eq_true rfl) ?_
  have bp640668 := gB_any p640668
  refine G_aload_n 0 dr_cJ5_putStringAt_47b60_0 rfl ?_
  refine G_aload_n 2 dr_cJ5_putStringAt_47b60_1 rfl ?_
  refine Gw_callVB (As := [.ref q640662]) (gV_ok D I) (cp_640694_AbstractStringBuilder_inflateIfNeededFor l hl0 D I P640659 F640660 q640661 q640662 q640663 q640664 p640666 p640667 p640668 p640669 f640670 n640671 f640672 n640673 hmq640661 hmq640662 hmq640663 hmq640664 heq640661 heq640662 heq640663 heq640664 hneq640663q640664 bp640666 bp640667 bp640669 bf640670 bf640672 (by have qa0 : Int32.toInt 0 = 0 := (by decide); omega) (by have qa0 : Int32.toInt 0 = 0 := (by decide); omega)) dr_cJ5_putStringAt_47b60_2 ⟨wr_8_159, wr_1_19, wr_8_162, by decide, rfl, (Nat.le_of_ble_eq_true rfl), (Nat.le_of_ble_eq_true rfl)⟩ wr_8_161 wr_s_5 hmq640661 heq640661 rfl (show 0 + 0 ≤ 0 by first | omega | decide) (show 0 + 0 ≤ 0 by first | omega | decide) (Nat.le_of_ble_eq_true rfl) (fun r640703 w640704 dc640700 ds640701 hp640702 => ?_) (fun _ _ _ _ _ z => z.elim)
  obtain ⟨rfl, rfl, hdc, hds⟩ := hp640702
  change G _ _ _ _ _ _ _ _ _ _ _
  refine G_widen (cs' := 0) (sl' := 0) (by omega) (by omega) ?_
  refine G_aload_n 2 dr_cJ5_putStringAt_47b60_5 rfl ?_
  refine G_aload_n 0 dr_cJ5_putStringAt_47b60_6 rfl ?_
  refine Gp_get 0 hmq640661 heq640661 dr_cJ5_putStringAt_47b60_7 (gk_J4 D I) (Nat.le_of_ble_eq_true rfl) wr_7_60 rfl ?_
  refine G_iload_n 1 dr_cJ5_putStringAt_47b60_10 rfl ?_
  refine G_aload_n 0 dr_cJ5_putStringAt_47b60_11 rfl ?_
  refine Gp_get 1 hmq640661 heq640661 dr_cJ5_putStringAt_47b60_12 (gk_J4 D I) (Nat.le_of_ble_eq_true rfl) wr_7_61 rfl ?_
  refine Gw_callV (As := [.ref q640663, .int p640665, .int 0]) (gV_ok D I) (cp_640720_String_getBytes l hl0 D I P640659 F640660 q640662 q640663 q640664 p640665 p640668 p640669 f640670 n640671 f640672 n640673 hmq640662 hmq640663 hmq640664 heq640662 heq640663 heq640664 hneq640663q640664 bp640665 bp640669 bf640670 bf640672 (by have qa0 : Int32.toInt 0 = 0 := (by decide); omega) (by have qa0 : Int32.toInt 0 = 0 := (by decide); omega) (by have qa0 : Int32.toInt 0 = 0 := (by decide); omega)) dr_cJ5_putStringAt_47b60_15 ⟨wr_8_164, wr_1_21, wr_8_167, by decide, rfl, (Nat.le_of_ble_eq_true rfl), (Nat.le_of_ble_eq_true rfl)⟩ wr_8_165 wr_8_166 hmq640662 heq640662 rfl (show 0 + 0 ≤ 0 by first | omega | decide) (show 0 + 0 ≤ 0 by first | omega | decide) (Nat.le_of_ble_eq_true rfl) (fun r640742 w640743 dc640739 ds640740 hp640741 => ?_) (fun _ _ _ _ _ z => z.elim)
  obtain ⟨F640747, f640744, rfl, rfl, hfr640749, he640750, he640751, he640752, hdc, hds, bf640744, x640745, x640746⟩ := hp640741
  have he640753 : F640747 q640661 = .inr (1, [.ref q640663, .int 0, .int p640666, .int p640667]) := (hfr640749 q640661 hmq640661 (nm_c (rn_oa heq640661 heq640663) nm_n)).trans heq640661
  have hfr640754 : rFr [q640663] P640659 F640660 F640747 := rFr_call (rSub_rf (P := P640659)) (rFr_rf (W := []) (P := P640659) (F := F640660)) hfr640749 (fun b hb hn => ⟨nm_n, (nm_c (fun e => hn (e ▸ List.mem_cons_self)) nm_n)⟩)
  change G _ _ _ _ _ _ _ _ _ _ _
  refine G_widen (cs' := 0) (sl' := 0) (by omega) (by omega) ?_
  exact G_vretA dr_cJ5_putStringAt_47b60_18 rfl (Nat.le_of_ble_eq_true rfl) (Nat.le_of_ble_eq_true rfl) ⟨F640747, f640744, rfl, rfl, hfr640754, he640753, he640750, he640751, he640752, (Nat.le_of_ble_eq_true rfl), (Nat.le_of_ble_eq_true rfl), bf640744, (sK_c x640745 (by omega)), (by assumption)⟩
abbrev ky_640617_AbstractStringBuilder_append : gKey := (cJ5_append_cf1ce, 3, "java/lang/AbstractStringBuilder", (some (FieldType.object "java/lang/AbstractStringBuilder")), [], "append", fun _ _ => True)
def pp_640617_AbstractStringBuilder_append (D : va_G) (I : FieldType → ClassId) (P640600 : List Nat) (F640601 : Nat → va_E) (q640602 : Nat) (q640603 : Nat) (q640604 : Nat) (q640605 : Nat) (p640606 : Int32) (p640607 : Int32) (p640608 : Int32) (p640609 : Int32) (f640610 : Nat → Int32) (n640611 : Nat) (f640612 : Nat → Int32) (n640613 : Nat) : Option Value → va_W → Nat → Nat → Prop := fun r w dc ds => ∃ (F640786 : Nat → va_E) (o640783 : Int32) (f640784 : Nat → Int32), r = some (.ref q640602) ∧ w = va_pl P640600 F640786 ∧ rFr [q640602, q640604] P640600 F640601 F640786 ∧ F640786 q640602 = .inr (1, [.ref q640604, .int 0, .int p640606, .int o640783]) ∧ F640786 q640603 = .inr (0, [.ref q640605, .int 0, .int p640608, .int p640609]) ∧ F640786 q640604 = .inl (I .byte, n640611, .inl f640784) ∧ F640786 q640605 = .inl (I .byte, n640613, .inl f640612) ∧ dc ≤ 0 ∧ ds ≤ 0 ∧ gB o640783 0 16777216 ∧ gF f640784 (-128) 127 ∧ o640783.toInt = p640607.toInt + (n640613 : Int) ∧ sK f640610 f640784 p640607.toInt ∧ sF f640612 f640784 p640607.toInt (n640613 : Int)
set_option maxRecDepth 100000 in
set_option maxHeartbeats 4000000 in
theorem cp_640617_AbstractStringBuilder_append (l : Launch) (hl0 : l.stackTraces = false) (D : va_G) (I : FieldType → ClassId) (P640600 : List Nat) (F640601 : Nat → va_E) (q640602 : Nat) (q640603 : Nat) (q640604 : Nat) (q640605 : Nat) (p640606 : Int32) (p640607 : Int32) (p640608 : Int32) (p640609 : Int32) (f640610 : Nat → Int32) (n640611 : Nat) (f640612 : Nat → Int32) (n640613 : Nat) (hmq640602 : q640602 ∈ P640600) (hmq640603 : q640603 ∈ P640600) (hmq640604 : q640604 ∈ P640600) (hmq640605 : q640605 ∈ P640600) (heq640602 : F640601 q640602 = .inr (1, [.ref q640604, .int 0, .int p640606, .int p640607])) (heq640603 : F640601 q640603 = .inr (0, [.ref q640605, .int 0, .int p640608, .int p640609])) (heq640604 : F640601 q640604 = .inl (I .byte, n640611, .inl f640610)) (heq640605 : F640601 q640605 = .inl (I .byte, n640613, .inl f640612)) (hneq640604q640605 : q640604 ≠ q640605) (bp640606 : gB p640606 0 1) (bp640607 : gB p640607 0 16777216) (bp640609 : gB p640609 0 1) (bf640610 : gF f640610 (-128) 127) (bf640612 : gF f640612 (-128) 127) (x640614 : p640607.toInt + (n640613 : Int) ≤ (n640611 : Int)) (x640615 : ((n640611 : Int) ≤ 16777216)) (x640616 : ((n640613 : Int) ≤ 16777216)) : CtA (gV D I) l yJ5_append_cf1ce cJ5_append_cf1ce 3 (some (FieldType.object "java/lang/AbstractStringBuilder")) 3 65 0 0 [.ref q640602, .ref q640603] (va_pl P640600 F640601) (pp_640617_AbstractStringBuilder_append D I P640600 F640601 q640602 q640603 q640604 q640605 p640606 p640607 p640608 p640609 f640610 n640611 f640612 n640613) gNA := by
  refine CtA_ofF hl0 (by decide +kernel) (Nat.le_of_ble_eq_true rfl) ?_
  have bp640608 := gB_any p640608
  refine G_aload_n 1 dr_cJ5_append_cf1ce_0 rfl ?_
  refine G_ifnonnull 9 dr_cJ5_append_cf1ce_1 (by decide +kernel) ?_
  refine G_aload_n 1 dr_cJ5_append_cf1ce_9 rfl ?_
  refine Gw_callV (As := []) (gV_ok D I) (cp_640627_String_length l hl0 D I P640600 F640601 q640603 q640605 p640608 p640609 f640612 n640613 hmq640603 hmq640605 heq640603 heq640605 bp640609 bf640612 (by have qa0 : Int32.toInt 0 = 0 := (by decide); omega)) dr_cJ5_append_cf1ce_10 ⟨wr_8_154, wr_1_21, wr_3_60, by decide, rfl, (Nat.le_of_ble_eq_true rfl), (Nat.le_of_ble_eq_true rfl)⟩ wr_3_58 wr_3_59 hmq640603 heq640603 rfl (show 0 + 0 ≤ 0 by first | omega | decide) (show 0 + 0 ≤ 0 by first | omega | decide) (Nat.le_of_ble_eq_true rfl) (fun r640649 w640650 dc640646 ds640647 hp640648 => ?_) (fun _ _ _ _ _ z => z.elim)
  obtain ⟨o640651, rfl, rfl, hdc, hds, bo640651, x640652⟩ := hp640648
  change G _ _ _ _ _ _ _ (.int o640651 :: _) _ _ _
  refine G_widen (cs' := 0) (sl' := 0) (by omega) (by omega) ?_
  refine G_istore_n (L' := [(2, .int o640651), (0, .ref q640602), (1, .ref q640603)]) dr_cJ5_append_cf1ce_13 (Nat.le_of_ble_eq_true rfl) rfl ?_
  refine G_aload_n 1 dr_cJ5_append_cf1ce_14 rfl ?_
  refine G_aload_n 1 dr_cJ5_append_cf1ce_15 rfl ?_
  refine Gp_get 3 hmq640602 heq640602 dr_cJ5_append_cf1ce_16 (gk_J4 D I) (Nat.le_of_ble_eq_true rfl) wr_7_64 rfl ?_
  refine G_iload_n 0 dr_cJ5_append_cf1ce_19 rfl ?_
  refine G_iadd dr_cJ5_append_cf1ce_20 (G_nam fun z640653 hz640653 => ?_)
  have ez640653 : z640653.toInt = p640607.toInt + o640651.toInt := by rw [gI_add hz640653 bp640607 bo640651 (by decide) (by decide)]
  have bz640653 : gB z640653 0 33554432 := gB_add (gI_add hz640653 bp640607 bo640651 (by decide) (by decide)) bp640607 bo640651 (by decide) (by decide)
  refine Gw_callVB (As := [.int z640653]) (gV_ok D I) (cp_640124_AbstractStringBuilder_ensureCapacityInternal l hl0 D I P640600 F640601 q640602 q640604 z640653 p640606 p640607 f640610 n640611 hmq640602 hmq640604 heq640602 heq640604 ⟨by omega, by omega⟩ bp640606 bp640607 bf640610 (by have qa0 : Int32.toInt 0 = 0 := (by decide); omega) (by have qa0 : Int32.toInt 0 = 0 := (by decide); omega)) dr_cJ5_append_cf1ce_21 ⟨wr_8_4, wr_1_19, wr_8_7, by decide, rfl, (Nat.le_of_ble_eq_true rfl), (Nat.le_of_ble_eq_true rfl)⟩ wr_8_6 wr_s_0 hmq640602 heq640602 rfl (show 0 + 0 ≤ 0 by first | omega | decide) (show 0 + 0 ≤ 0 by first | omega | decide) (Nat.le_of_ble_eq_true rfl) (fun r640657 w640658 dc640654 ds640655 hp640656 => ?_) (fun _ _ _ _ _ z => z.elim)
  obtain ⟨rfl, rfl, hdc, hds⟩ := hp640656
  change G _ _ _ _ _ _ _ _ _ _ _
  refine G_widen (cs' := 0) (sl' := 0) (by omega) (by omega) ?_
  refine G_aload_n 1 dr_cJ5_append_cf1ce_24 rfl ?_
  refine G_aload_n 1 dr_cJ5_append_cf1ce_25 rfl ?_
  refine Gp_get 3 hmq640602 heq640602 dr_cJ5_append_cf1ce_26 (gk_J4 D I) (Nat.le_of_ble_eq_true rfl) wr_7_64 rfl ?_
  refine G_aload_n 2 dr_cJ5_append_cf1ce_29 rfl ?_
  refine Gw_callVB (As := [.int p640607, .ref q640603]) (gV_ok D I) (cp_640677_AbstractStringBuilder_putStringAt l hl0 D I P640600 F640601 q640602 q640603 q640604 q640605 p640607 p640606 p640607 p640608 p640609 f640610 n640611 f640612 n640613 hmq640602 hmq640603 hmq640604 hmq640605 heq640602 heq640603 heq640604 heq640605 hneq640604q640605 bp640607 bp640606 bp640607 bp640609 bf640610 bf640612 (by have qa0 : Int32.toInt 0 = 0 := (by decide); omega) (by have qa0 : Int32.toInt 0 = 0 := (by decide); omega) (by have qa0 : Int32.toInt 0 = 0 := (by decide); omega)) dr_cJ5_append_cf1ce_30 ⟨wr_8_155, wr_1_19, wr_8_158, by decide, rfl, (Nat.le_of_ble_eq_true rfl), (Nat.le_of_ble_eq_true rfl)⟩ wr_8_157 wr_s_4 hmq640602 heq640602 rfl (show 0 + 0 ≤ 0 by first | omega | decide) (show 0 + 0 ≤ 0 by first | omega | decide) (Nat.le_of_ble_eq_true rfl) (fun r640761 w640762 dc640758 ds640759 hp640760 => ?_) (fun _ _ _ _ _ z => z.elim)
  obtain ⟨F640766, f640763, rfl, rfl, hfr640768, he640769, he640770, he640771, he640772, hdc, hds, bf640763, x640764, x640765⟩ := hp640760
  have hfr640773 : rFr [q640604] P640600 F640601 F640766 := rFr_call (rSub_rf (P := P640600)) (rFr_rf (W := []) (P := P640600) (F := F640601)) hfr640768 (fun b hb hn => ⟨nm_n, (nm_c (fun e => hn (e ▸ List.mem_cons_self)) nm_n)⟩)
  change G _ _ _ _ _ _ _ _ _ _ _
  refine G_widen (cs' := 0) (sl' := 0) (by omega) (by omega) ?_
  refine G_aload_n 1 dr_cJ5_append_cf1ce_33 rfl ?_
  refine G_dup dr_cJ5_append_cf1ce_34 rfl ?_
  refine Gp_get 3 hmq640602 he640769 dr_cJ5_append_cf1ce_35 (gk_J4 D I) (Nat.le_of_ble_eq_true rfl) wr_7_64 rfl ?_
  refine G_iload_n 0 dr_cJ5_append_cf1ce_38 rfl ?_
  refine G_iadd dr_cJ5_append_cf1ce_39 (G_nam fun z640774 hz640774 => ?_)
  have ez640774 : z640774.toInt = p640607.toInt + o640651.toInt := by rw [gI_add hz640774 bp640607 bo640651 (by decide) (by decide)]
  have bz640774 : gB z640774 0 33554432 := gB_add (gI_add hz640774 bp640607 bo640651 (by decide) (by decide)) bp640607 bo640651 (by decide) (by decide)
  refine Gp_put 3 hmq640602 he640769 dr_cJ5_append_cf1ce_40 (gk_J4 D I) (Nat.le_of_ble_eq_true rfl) wr_7_64 rfl rfl rfl (Nat.le_of_ble_eq_true rfl) (fun F640775 e640776 n640777 => ?_)
  have he640778 : F640775 q640603 = .inr (0, [.ref q640605, .int 0, .int p640608, .int p640609]) := (n640777 q640603 (rn_oo he640770 he640769 (by decide))).trans he640770
  have he640779 : F640775 q640604 = .inl (I .byte, n640611, .inl f640763) := (n640777 q640604 (rn_ao he640771 he640769)).trans he640771
  have he640780 : F640775 q640605 = .inl (I .byte, n640613, .inl f640612) := (n640777 q640605 (rn_ao he640772 he640769)).trans he640772
  have he640781 : F640775 q640602 = .inr (1, [.ref q640604, .int 0, .int p640606, .int z640774]) := e640776
  have hfr640782 : rFr [q640602, q640604] P640600 F640601 F640775 := rFr_put hfr640773 n640777
  refine G_aload_n 1 dr_cJ5_append_cf1ce_43 rfl ?_
  exact G_aretA (FieldType.object "java/lang/AbstractStringBuilder") dr_cJ5_append_cf1ce_44 rfl (by first | exact Or.inl ⟨_, rfl⟩ | exact Or.inr ⟨_, rfl⟩) (Or.inr ⟨_, rfl⟩) (Nat.le_of_ble_eq_true rfl) (Nat.le_of_ble_eq_true rfl) ⟨F640775, z640774, f640763, rfl, rfl, hfr640782, he640781, he640778, he640779, he640780, (Nat.le_of_ble_eq_true rfl), (Nat.le_of_ble_eq_true rfl), ⟨by omega, by omega⟩, bf640763, (by have qa0 : Int32.toInt 0 = 0 := (by decide); omega), (sK_c x640764 (by omega)), (by assumption)⟩
