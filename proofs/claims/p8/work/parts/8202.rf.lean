theorem dr_cJ5_setLength_d00df_0 : decode cJ5_setLength_d00df 0 = .ok (.iload_n 1, 1) := by decide +kernel
theorem dr_cJ5_setLength_d00df_1 : decode cJ5_setLength_d00df 1 = .ok (.ifCond .ge 12, 3) := by decide +kernel
theorem dr_cJ5_setLength_d00df_13 : decode cJ5_setLength_d00df 13 = .ok (.aload_n 0, 1) := by decide +kernel
theorem dr_cJ5_setLength_d00df_14 : decode cJ5_setLength_d00df 14 = .ok (.iload_n 1, 1) := by decide +kernel
theorem dr_cJ5_setLength_d00df_15 : decode cJ5_setLength_d00df 15 = .ok (.invokevirtual 100, 3) := by decide +kernel
theorem dr_cJ5_setLength_d00df_18 : decode cJ5_setLength_d00df 18 = .ok (.aload_n 0, 1) := by decide +kernel
theorem dr_cJ5_setLength_d00df_19 : decode cJ5_setLength_d00df 19 = .ok (.getfield 79, 3) := by decide +kernel
theorem dr_cJ5_setLength_d00df_22 : decode cJ5_setLength_d00df 22 = .ok (.iload_n 1, 1) := by decide +kernel
theorem dr_cJ5_setLength_d00df_23 : decode cJ5_setLength_d00df 23 = .ok (.if_icmp .ge 40, 3) := by decide +kernel
theorem dr_cJ5_setLength_d00df_63 : decode cJ5_setLength_d00df 63 = .ok (.aload_n 0, 1) := by decide +kernel
theorem dr_cJ5_setLength_d00df_64 : decode cJ5_setLength_d00df 64 = .ok (.getfield 79, 3) := by decide +kernel
theorem dr_cJ5_setLength_d00df_67 : decode cJ5_setLength_d00df 67 = .ok (.iload_n 1, 1) := by decide +kernel
theorem dr_cJ5_setLength_d00df_68 : decode cJ5_setLength_d00df 68 = .ok (.if_icmp .le 8, 3) := by decide +kernel
theorem dr_cJ5_setLength_d00df_76 : decode cJ5_setLength_d00df 76 = .ok (.aload_n 0, 1) := by decide +kernel
theorem dr_cJ5_setLength_d00df_77 : decode cJ5_setLength_d00df 77 = .ok (.iload_n 1, 1) := by decide +kernel
theorem dr_cJ5_setLength_d00df_78 : decode cJ5_setLength_d00df 78 = .ok (.putfield 79, 3) := by decide +kernel
theorem dr_cJ5_setLength_d00df_81 : decode cJ5_setLength_d00df 81 = .ok (.return_, 1) := by decide +kernel
theorem dr_cJ5_setLength_d00df_71 : decode cJ5_setLength_d00df 71 = .ok (.aload_n 0, 1) := by decide +kernel
theorem dr_cJ5_setLength_d00df_72 : decode cJ5_setLength_d00df 72 = .ok (.iconst 1, 1) := by decide +kernel
theorem dr_cJ5_setLength_d00df_73 : decode cJ5_setLength_d00df 73 = .ok (.putfield 73, 3) := by decide +kernel
theorem wr_7_62 : (Jvm.Cond.fieldLink "java/lang/AbstractStringBuilder" (73 : Nat) "java/lang/AbstractStringBuilder" "maybeLatin1" "Z") ∈ gw := gw_7 62 rfl rfl
theorem dr_cJ4_setLength_d00df_0 : decode cJ4_setLength_d00df 0 = .ok (.aload_n 0, 1) := by decide +kernel
theorem dr_cJ4_setLength_d00df_1 : decode cJ4_setLength_d00df 1 = .ok (.iload_n 1, 1) := by decide +kernel
theorem dr_cJ4_setLength_d00df_2 : decode cJ4_setLength_d00df 2 = .ok (.invokespecial 333, 3) := by decide +kernel
theorem wr_11_129 : (Jvm.Cond.methodLink "java/lang/StringBuilder" (333 : Nat) ({ cls := "java/lang/AbstractStringBuilder", name := "setLength", desc := "(I)V" } : Jvm.MethodName)) ∈ gw := gw_11 129 rfl rfl
theorem wr_11_131 : (Jvm.Cond.code ({ cls := "java/lang/AbstractStringBuilder", name := "setLength", desc := "(I)V" } : Jvm.MethodName) prog_21_method_13_code (2 : Nat) (Option.none : Option Jvm.ClassFile.FieldType)) ∈ gw := gw_11 131 rfl rfl
theorem wr_11_130 : (Jvm.Cond.instanceMethod ({ cls := "java/lang/AbstractStringBuilder", name := "setLength", desc := "(I)V" } : Jvm.MethodName)) ∈ gw := gw_11 130 rfl rfl
theorem wr_11_233 : (Jvm.Cond.sameMethod "java/lang/AbstractStringBuilder" "java/lang/AbstractStringBuilder" "setLength" "(I)V") ∈ gw := gw_11 233 rfl rfl
theorem dr_cJ4_setLength_d00df_5 : decode cJ4_setLength_d00df 5 = .ok (.return_, 1) := by decide +kernel
theorem dr_cJ5_init_d00df_0 : decode cJ5_init_d00df 0 = .ok (.aload_n 0, 1) := by decide +kernel
theorem dr_cJ5_init_d00df_1 : decode cJ5_init_d00df 1 = .ok (.invokespecial 3, 3) := by decide +kernel
theorem wr_7_51 : (Jvm.Cond.methodLink "java/lang/AbstractStringBuilder" (3 : Nat) ({ cls := "java/lang/Object", name := "<init>", desc := "()V" } : Jvm.MethodName)) ∈ gw := gw_7 51 rfl rfl
theorem dr_cJ5_init_d00df_4 : decode cJ5_init_d00df 4 = .ok (.getstatic 18, 3) := by decide +kernel
theorem dr_cJ5_init_d00df_7 : decode cJ5_init_d00df 7 = .ok (.ifCond .eq 18, 3) := by decide +kernel
theorem dr_cJ5_init_d00df_10 : decode cJ5_init_d00df 10 = .ok (.aload_n 0, 1) := by decide +kernel
theorem dr_cJ5_init_d00df_11 : decode cJ5_init_d00df 11 = .ok (.iload_n 1, 1) := by decide +kernel
theorem dr_cJ5_init_d00df_12 : decode cJ5_init_d00df 12 = .ok (.newarray .byte, 2) := by decide +kernel
theorem dr_cJ5_init_d00df_14 : decode cJ5_init_d00df 14 = .ok (.putfield 15, 3) := by decide +kernel
theorem dr_cJ5_init_d00df_17 : decode cJ5_init_d00df 17 = .ok (.aload_n 0, 1) := by decide +kernel
theorem dr_cJ5_init_d00df_18 : decode cJ5_init_d00df 18 = .ok (.iconst 0, 1) := by decide +kernel
theorem dr_cJ5_init_d00df_19 : decode cJ5_init_d00df 19 = .ok (.putfield 22, 3) := by decide +kernel
theorem dr_cJ5_init_d00df_22 : decode cJ5_init_d00df 22 = .ok (.goto 16, 3) := by decide +kernel
theorem dr_cJ5_init_d00df_38 : decode cJ5_init_d00df 38 = .ok (.return_, 1) := by decide +kernel
theorem dr_cJ4_init_da8c8_0 : decode cJ4_init_da8c8 0 = .ok (.aload_n 0, 1) := by decide +kernel
theorem dr_cJ4_init_da8c8_1 : decode cJ4_init_da8c8 1 = .ok (.bipush 16, 2) := by decide +kernel
theorem dr_cJ4_init_da8c8_3 : decode cJ4_init_da8c8 3 = .ok (.invokespecial 1, 3) := by decide +kernel
theorem wr_7_48 : (Jvm.Cond.methodLink "java/lang/StringBuilder" (1 : Nat) ({ cls := "java/lang/AbstractStringBuilder", name := "<init>", desc := "(I)V" } : Jvm.MethodName)) ∈ gw := gw_7 48 rfl rfl
theorem wr_7_50 : (Jvm.Cond.code ({ cls := "java/lang/AbstractStringBuilder", name := "<init>", desc := "(I)V" } : Jvm.MethodName) prog_21_method_2_code (2 : Nat) (Option.none : Option Jvm.ClassFile.FieldType)) ∈ gw := gw_7 50 rfl rfl
theorem wr_7_49 : (Jvm.Cond.instanceMethod ({ cls := "java/lang/AbstractStringBuilder", name := "<init>", desc := "(I)V" } : Jvm.MethodName)) ∈ gw := gw_7 49 rfl rfl
theorem dr_cJ4_init_da8c8_6 : decode cJ4_init_da8c8 6 = .ok (.return_, 1) := by decide +kernel
theorem dr_cJ0_coder_7d493_0 : decode cJ0_coder_7d493 0 = .ok (.getstatic 38, 3) := by decide +kernel
theorem wr_3_65 : (Jvm.Cond.fieldLink "java/lang/String" (38 : Nat) "java/lang/String" "COMPACT_STRINGS" "Z") ∈ gw := gw_3 65 rfl rfl
theorem dr_cJ0_coder_7d493_3 : decode cJ0_coder_7d493 3 = .ok (.ifCond .eq 10, 3) := by decide +kernel
theorem dr_cJ0_coder_7d493_6 : decode cJ0_coder_7d493 6 = .ok (.aload_n 0, 1) := by decide +kernel
theorem dr_cJ0_coder_7d493_7 : decode cJ0_coder_7d493 7 = .ok (.getfield 15, 3) := by decide +kernel
theorem wr_8_183 : (Jvm.Cond.fieldLink "java/lang/String" (15 : Nat) "java/lang/String" "coder" "B") ∈ gw := gw_8 183 rfl rfl
theorem dr_cJ0_coder_7d493_10 : decode cJ0_coder_7d493 10 = .ok (.goto 4, 3) := by decide +kernel
theorem dr_cJ0_coder_7d493_14 : decode cJ0_coder_7d493 14 = .ok (.ireturn, 1) := by decide +kernel
theorem dr_cJ0_length_8abf5_0 : decode cJ0_length_8abf5 0 = .ok (.aload_n 0, 1) := by decide +kernel
theorem dr_cJ0_length_8abf5_1 : decode cJ0_length_8abf5 1 = .ok (.getfield 9, 3) := by decide +kernel
theorem wr_8_182 : (Jvm.Cond.fieldLink "java/lang/String" (9 : Nat) "java/lang/String" "value" "[B") ∈ gw := gw_8 182 rfl rfl
theorem dr_cJ0_length_8abf5_4 : decode cJ0_length_8abf5 4 = .ok (.arraylength, 1) := by decide +kernel
theorem dr_cJ0_length_8abf5_5 : decode cJ0_length_8abf5 5 = .ok (.aload_n 0, 1) := by decide +kernel
theorem dr_cJ0_length_8abf5_6 : decode cJ0_length_8abf5 6 = .ok (.invokevirtual 335, 3) := by decide +kernel
theorem wr_3_61 : (Jvm.Cond.methodLink "java/lang/String" (335 : Nat) ({ cls := "java/lang/String", name := "coder", desc := "()B" } : Jvm.MethodName)) ∈ gw := gw_3 61 rfl rfl
theorem wr_3_64 : (Jvm.Cond.code ({ cls := "java/lang/String", name := "coder", desc := "()B" } : Jvm.MethodName) prog_34_method_152_code (1 : Nat) (Option.some Jvm.ClassFile.FieldType.byte)) ∈ gw := gw_3 64 rfl rfl
theorem wr_3_62 : (Jvm.Cond.instanceMethod ({ cls := "java/lang/String", name := "coder", desc := "()B" } : Jvm.MethodName)) ∈ gw := gw_3 62 rfl rfl
theorem wr_3_63 : (Jvm.Cond.selects "java/lang/String" ({ cls := "java/lang/String", name := "coder", desc := "()B" } : Jvm.MethodName) ({ cls := "java/lang/String", name := "coder", desc := "()B" } : Jvm.MethodName)) ∈ gw := gw_3 63 rfl rfl
theorem dr_cJ0_length_8abf5_9 : decode cJ0_length_8abf5 9 = .ok (.ishr, 1) := by decide +kernel
theorem dr_cJ0_length_8abf5_10 : decode cJ0_length_8abf5 10 = .ok (.ireturn, 1) := by decide +kernel
theorem dr_cJ5_inflateIfNeededFor_a7421_0 : decode cJ5_inflateIfNeededFor_a7421 0 = .ok (.getstatic 18, 3) := by decide +kernel
theorem dr_cJ5_inflateIfNeededFor_a7421_3 : decode cJ5_inflateIfNeededFor_a7421 3 = .ok (.ifCond .eq 18, 3) := by decide +kernel
theorem dr_cJ5_inflateIfNeededFor_a7421_6 : decode cJ5_inflateIfNeededFor_a7421 6 = .ok (.aload_n 0, 1) := by decide +kernel
theorem dr_cJ5_inflateIfNeededFor_a7421_7 : decode cJ5_inflateIfNeededFor_a7421 7 = .ok (.getfield 22, 3) := by decide +kernel
theorem dr_cJ5_inflateIfNeededFor_a7421_10 : decode cJ5_inflateIfNeededFor_a7421 10 = .ok (.aload_n 1, 1) := by decide +kernel
theorem dr_cJ5_inflateIfNeededFor_a7421_11 : decode cJ5_inflateIfNeededFor_a7421 11 = .ok (.invokevirtual 40, 3) := by decide +kernel
theorem wr_8_163 : (Jvm.Cond.methodLink "java/lang/AbstractStringBuilder" (40 : Nat) ({ cls := "java/lang/String", name := "coder", desc := "()B" } : Jvm.MethodName)) ∈ gw := gw_8 163 rfl rfl
theorem dr_cJ5_inflateIfNeededFor_a7421_14 : decode cJ5_inflateIfNeededFor_a7421 14 = .ok (.if_icmp .eq 7, 3) := by decide +kernel
theorem dr_cJ5_inflateIfNeededFor_a7421_21 : decode cJ5_inflateIfNeededFor_a7421 21 = .ok (.return_, 1) := by decide +kernel
theorem dr_cJ0_getBytes_840e7_0 : decode cJ0_getBytes_840e7 0 = .ok (.aload_n 0, 1) := by decide +kernel
theorem dr_cJ0_getBytes_840e7_1 : decode cJ0_getBytes_840e7 1 = .ok (.invokevirtual 335, 3) := by decide +kernel
theorem dr_cJ0_getBytes_840e7_4 : decode cJ0_getBytes_840e7 4 = .ok (.iload_n 3, 1) := by decide +kernel
theorem dr_cJ0_getBytes_840e7_5 : decode cJ0_getBytes_840e7 5 = .ok (.if_icmp .ne 23, 3) := by decide +kernel
theorem dr_cJ0_getBytes_840e7_8 : decode cJ0_getBytes_840e7 8 = .ok (.aload_n 0, 1) := by decide +kernel
theorem dr_cJ0_getBytes_840e7_9 : decode cJ0_getBytes_840e7 9 = .ok (.getfield 9, 3) := by decide +kernel
theorem dr_cJ0_getBytes_840e7_12 : decode cJ0_getBytes_840e7 12 = .ok (.iconst 0, 1) := by decide +kernel
theorem dr_cJ0_getBytes_840e7_13 : decode cJ0_getBytes_840e7 13 = .ok (.aload_n 1, 1) := by decide +kernel
theorem dr_cJ0_getBytes_840e7_14 : decode cJ0_getBytes_840e7 14 = .ok (.iload_n 2, 1) := by decide +kernel
theorem dr_cJ0_getBytes_840e7_15 : decode cJ0_getBytes_840e7 15 = .ok (.iload_n 3, 1) := by decide +kernel
theorem dr_cJ0_getBytes_840e7_16 : decode cJ0_getBytes_840e7 16 = .ok (.ishl, 1) := by decide +kernel
theorem dr_cJ0_getBytes_840e7_17 : decode cJ0_getBytes_840e7 17 = .ok (.aload_n 0, 1) := by decide +kernel
theorem dr_cJ0_getBytes_840e7_18 : decode cJ0_getBytes_840e7 18 = .ok (.getfield 9, 3) := by decide +kernel
theorem dr_cJ0_getBytes_840e7_21 : decode cJ0_getBytes_840e7 21 = .ok (.arraylength, 1) := by decide +kernel
theorem dr_cJ0_getBytes_840e7_22 : decode cJ0_getBytes_840e7 22 = .ok (.invokestatic 212, 3) := by decide +kernel
theorem wr_8_168 : (Jvm.Cond.methodLink "java/lang/String" (212 : Nat) ({ cls := "java/lang/System", name := "arraycopy", desc := "(Ljava/lang/Object;ILjava/lang/Object;II)V" } : Jvm.MethodName)) ∈ gw := gw_8 168 rfl rfl
theorem dr_cJ0_getBytes_840e7_25 : decode cJ0_getBytes_840e7 25 = .ok (.goto 18, 3) := by decide +kernel
theorem dr_cJ0_getBytes_840e7_43 : decode cJ0_getBytes_840e7 43 = .ok (.return_, 1) := by decide +kernel
theorem dr_cJ5_putStringAt_47b60_0 : decode cJ5_putStringAt_47b60 0 = .ok (.aload_n 0, 1) := by decide +kernel
theorem dr_cJ5_putStringAt_47b60_1 : decode cJ5_putStringAt_47b60 1 = .ok (.aload_n 2, 1) := by decide +kernel
theorem dr_cJ5_putStringAt_47b60_2 : decode cJ5_putStringAt_47b60 2 = .ok (.invokevirtual 397, 3) := by decide +kernel
theorem wr_8_159 : (Jvm.Cond.methodLink "java/lang/AbstractStringBuilder" (397 : Nat) ({ cls := "java/lang/AbstractStringBuilder", name := "inflateIfNeededFor", desc := "(Ljava/lang/String;)V" } : Jvm.MethodName)) ∈ gw := gw_8 159 rfl rfl
theorem wr_8_162 : (Jvm.Cond.code ({ cls := "java/lang/AbstractStringBuilder", name := "inflateIfNeededFor", desc := "(Ljava/lang/String;)V" } : Jvm.MethodName) prog_21_method_71_code (2 : Nat) (Option.none : Option Jvm.ClassFile.FieldType)) ∈ gw := gw_8 162 rfl rfl
theorem wr_8_161 : (Jvm.Cond.instanceMethod ({ cls := "java/lang/AbstractStringBuilder", name := "inflateIfNeededFor", desc := "(Ljava/lang/String;)V" } : Jvm.MethodName)) ∈ gw := gw_8 161 rfl rfl
theorem wr_s_5 : Cond.selects "java/lang/StringBuilder" ⟨"java/lang/AbstractStringBuilder", "inflateIfNeededFor", "(Ljava/lang/String;)V"⟩ ⟨"java/lang/AbstractStringBuilder", "inflateIfNeededFor", "(Ljava/lang/String;)V"⟩ ∈ gw := gw_s _ 5 rfl rfl rfl
theorem dr_cJ5_putStringAt_47b60_5 : decode cJ5_putStringAt_47b60 5 = .ok (.aload_n 2, 1) := by decide +kernel
theorem dr_cJ5_putStringAt_47b60_6 : decode cJ5_putStringAt_47b60 6 = .ok (.aload_n 0, 1) := by decide +kernel
theorem dr_cJ5_putStringAt_47b60_7 : decode cJ5_putStringAt_47b60 7 = .ok (.getfield 15, 3) := by decide +kernel
theorem dr_cJ5_putStringAt_47b60_10 : decode cJ5_putStringAt_47b60 10 = .ok (.iload_n 1, 1) := by decide +kernel
theorem dr_cJ5_putStringAt_47b60_11 : decode cJ5_putStringAt_47b60 11 = .ok (.aload_n 0, 1) := by decide +kernel
theorem dr_cJ5_putStringAt_47b60_12 : decode cJ5_putStringAt_47b60 12 = .ok (.getfield 22, 3) := by decide +kernel
theorem dr_cJ5_putStringAt_47b60_15 : decode cJ5_putStringAt_47b60 15 = .ok (.invokevirtual 399, 3) := by decide +kernel
theorem wr_8_164 : (Jvm.Cond.methodLink "java/lang/AbstractStringBuilder" (399 : Nat) ({ cls := "java/lang/String", name := "getBytes", desc := "([BIB)V" } : Jvm.MethodName)) ∈ gw := gw_8 164 rfl rfl
theorem wr_8_167 : (Jvm.Cond.code ({ cls := "java/lang/String", name := "getBytes", desc := "([BIB)V" } : Jvm.MethodName) prog_34_method_147_code (4 : Nat) (Option.none : Option Jvm.ClassFile.FieldType)) ∈ gw := gw_8 167 rfl rfl
theorem wr_8_165 : (Jvm.Cond.instanceMethod ({ cls := "java/lang/String", name := "getBytes", desc := "([BIB)V" } : Jvm.MethodName)) ∈ gw := gw_8 165 rfl rfl
theorem wr_8_166 : (Jvm.Cond.selects "java/lang/String" ({ cls := "java/lang/String", name := "getBytes", desc := "([BIB)V" } : Jvm.MethodName) ({ cls := "java/lang/String", name := "getBytes", desc := "([BIB)V" } : Jvm.MethodName)) ∈ gw := gw_8 166 rfl rfl
theorem dr_cJ5_putStringAt_47b60_18 : decode cJ5_putStringAt_47b60 18 = .ok (.return_, 1) := by decide +kernel
theorem dr_cJ5_append_cf1ce_0 : decode cJ5_append_cf1ce 0 = .ok (.aload_n 1, 1) := by decide +kernel
theorem dr_cJ5_append_cf1ce_1 : decode cJ5_append_cf1ce 1 = .ok (.ifnonnull 8, 3) := by decide +kernel
theorem dr_cJ5_append_cf1ce_9 : decode cJ5_append_cf1ce 9 = .ok (.aload_n 1, 1) := by decide +kernel
theorem dr_cJ5_append_cf1ce_10 : decode cJ5_append_cf1ce 10 = .ok (.invokevirtual 32, 3) := by decide +kernel
theorem wr_8_154 : (Jvm.Cond.methodLink "java/lang/AbstractStringBuilder" (32 : Nat) ({ cls := "java/lang/String", name := "length", desc := "()I" } : Jvm.MethodName)) ∈ gw := gw_8 154 rfl rfl
theorem wr_3_60 : (Jvm.Cond.code ({ cls := "java/lang/String", name := "length", desc := "()I" } : Jvm.MethodName) prog_34_method_54_code (1 : Nat) (Option.some Jvm.ClassFile.FieldType.int)) ∈ gw := gw_3 60 rfl rfl
theorem wr_3_58 : (Jvm.Cond.instanceMethod ({ cls := "java/lang/String", name := "length", desc := "()I" } : Jvm.MethodName)) ∈ gw := gw_3 58 rfl rfl
theorem wr_3_59 : (Jvm.Cond.selects "java/lang/String" ({ cls := "java/lang/String", name := "length", desc := "()I" } : Jvm.MethodName) ({ cls := "java/lang/String", name := "length", desc := "()I" } : Jvm.MethodName)) ∈ gw := gw_3 59 rfl rfl
theorem dr_cJ5_append_cf1ce_13 : decode cJ5_append_cf1ce 13 = .ok (.istore_n 2, 1) := by decide +kernel
theorem dr_cJ5_append_cf1ce_14 : decode cJ5_append_cf1ce 14 = .ok (.aload_n 0, 1) := by decide +kernel
theorem dr_cJ5_append_cf1ce_15 : decode cJ5_append_cf1ce 15 = .ok (.aload_n 0, 1) := by decide +kernel
theorem dr_cJ5_append_cf1ce_16 : decode cJ5_append_cf1ce 16 = .ok (.getfield 79, 3) := by decide +kernel
theorem dr_cJ5_append_cf1ce_19 : decode cJ5_append_cf1ce 19 = .ok (.iload_n 2, 1) := by decide +kernel
theorem dr_cJ5_append_cf1ce_20 : decode cJ5_append_cf1ce 20 = .ok (.iadd, 1) := by decide +kernel
theorem dr_cJ5_append_cf1ce_21 : decode cJ5_append_cf1ce 21 = .ok (.invokevirtual 100, 3) := by decide +kernel
theorem dr_cJ5_append_cf1ce_24 : decode cJ5_append_cf1ce 24 = .ok (.aload_n 0, 1) := by decide +kernel
theorem dr_cJ5_append_cf1ce_25 : decode cJ5_append_cf1ce 25 = .ok (.aload_n 0, 1) := by decide +kernel
theorem dr_cJ5_append_cf1ce_26 : decode cJ5_append_cf1ce 26 = .ok (.getfield 79, 3) := by decide +kernel
theorem dr_cJ5_append_cf1ce_29 : decode cJ5_append_cf1ce 29 = .ok (.aload_n 1, 1) := by decide +kernel
theorem dr_cJ5_append_cf1ce_30 : decode cJ5_append_cf1ce 30 = .ok (.invokevirtual 208, 3) := by decide +kernel
theorem wr_8_155 : (Jvm.Cond.methodLink "java/lang/AbstractStringBuilder" (208 : Nat) ({ cls := "java/lang/AbstractStringBuilder", name := "putStringAt", desc := "(ILjava/lang/String;)V" } : Jvm.MethodName)) ∈ gw := gw_8 155 rfl rfl
theorem wr_8_158 : (Jvm.Cond.code ({ cls := "java/lang/AbstractStringBuilder", name := "putStringAt", desc := "(ILjava/lang/String;)V" } : Jvm.MethodName) prog_21_method_73_code (3 : Nat) (Option.none : Option Jvm.ClassFile.FieldType)) ∈ gw := gw_8 158 rfl rfl
theorem wr_8_157 : (Jvm.Cond.instanceMethod ({ cls := "java/lang/AbstractStringBuilder", name := "putStringAt", desc := "(ILjava/lang/String;)V" } : Jvm.MethodName)) ∈ gw := gw_8 157 rfl rfl
theorem wr_s_4 : Cond.selects "java/lang/StringBuilder" ⟨"java/lang/AbstractStringBuilder", "putStringAt", "(ILjava/lang/String;)V"⟩ ⟨"java/lang/AbstractStringBuilder", "putStringAt", "(ILjava/lang/String;)V"⟩ ∈ gw := gw_s _ 4 rfl rfl rfl
theorem dr_cJ5_append_cf1ce_33 : decode cJ5_append_cf1ce 33 = .ok (.aload_n 0, 1) := by decide +kernel
theorem dr_cJ5_append_cf1ce_34 : decode cJ5_append_cf1ce 34 = .ok (.dup, 1) := by decide +kernel
theorem dr_cJ5_append_cf1ce_35 : decode cJ5_append_cf1ce 35 = .ok (.getfield 79, 3) := by decide +kernel
theorem dr_cJ5_append_cf1ce_38 : decode cJ5_append_cf1ce 38 = .ok (.iload_n 2, 1) := by decide +kernel
theorem dr_cJ5_append_cf1ce_39 : decode cJ5_append_cf1ce 39 = .ok (.iadd, 1) := by decide +kernel
theorem dr_cJ5_append_cf1ce_40 : decode cJ5_append_cf1ce 40 = .ok (.putfield 79, 3) := by decide +kernel
theorem dr_cJ5_append_cf1ce_43 : decode cJ5_append_cf1ce 43 = .ok (.aload_n 0, 1) := by decide +kernel
theorem dr_cJ5_append_cf1ce_44 : decode cJ5_append_cf1ce 44 = .ok (.areturn, 1) := by decide +kernel
abbrev ky_655904_AbstractStringBuilder_append : gKey := (cJ5_append_3fe6f, 2, "java/lang/AbstractStringBuilder", (some (FieldType.object "java/lang/AbstractStringBuilder")), [], "append", fun _ _ => True)
def pp_655904_AbstractStringBuilder_append (D : va_G) (I : FieldType → ClassId) (P655892 : List Nat) (F655893 : Nat → va_E) (q655894 : Nat) (q655895 : Nat) (p655896 : Int32) (p655897 : Int32) (p655898 : Int32) (f655899 : Nat → Int32) (n655900 : Nat) : Option Value → va_W → Nat → Nat → Prop := fun r w dc ds => ∃ (P656100 : List Nat) (F656101 : Nat → va_E) (o656096 : Int32) (q656097 : Nat) (n656098 : Nat) (f656099 : Nat → Int32), r = some (.ref q655894) ∧ w = va_pl P656100 F656101 ∧ rSub P655892 P656100 ∧ rFr [q655895, q655894] P655892 F655893 F656101 ∧ F656101 q655894 = .inr (1, [.ref q656097, .int 0, .int p655897, .int o656096]) ∧ F656101 q656097 = .inl (I .byte, n656098, .inl f656099) ∧ q656097 ∈ P656100 ∧ (q656097 = q655895 ∨ q656097 ∉ P655892) ∧ dc ≤ 1 ∧ ds ≤ 2 * (n656098 - n655900) ∧ gB o656096 1 16777216 ∧ gF f656099 (-128) 127 ∧ o656096.toInt = p655898.toInt + 1 ∧ o656096.toInt ≤ (n656098 : Int) ∧ (n655900 : Int) ≤ (n656098 : Int) ∧ (n656098 : Int) ≤ 2 * (n655900 : Int) + 2 ∧ tr_RAbstractStringBuilder_append2 p655896 p655898 f655899 n655900 o656096 n656098 f656099
set_option maxRecDepth 100000 in
set_option maxHeartbeats 4000000 in
theorem cp_655904_AbstractStringBuilder_append (l : Launch) (hl0 : l.stackTraces = false) (D : va_G) (I : FieldType → ClassId) (P655892 : List Nat) (F655893 : Nat → va_E) (q655894 : Nat) (q655895 : Nat) (p655896 : Int32) (p655897 : Int32) (p655898 : Int32) (f655899 : Nat → Int32) (n655900 : Nat) (hmq655894 : q655894 ∈ P655892) (hmq655895 : q655895 ∈ P655892) (heq655894 : F655893 q655894 = .inr (1, [.ref q655895, .int 0, .int p655897, .int p655898])) (heq655895 : F655893 q655895 = .inl (I .byte, n655900, .inl f655899)) (bp655896 : gB p655896 0 255) (bp655897 : gB p655897 0 1) (bp655898 : gB p655898 0 16777216) (bf655899 : gF f655899 (-128) 127) (x655901 : (n655900 : Int) ≤ 8388608 - 100000) (x655902 : p655898.toInt ≤ (n655900 : Int)) (x655903 : ((n655900 : Int) ≤ 16777216)) : CtA (gV D I) l yJ5_append_3fe6f cJ5_append_3fe6f 2 (some (FieldType.object "java/lang/AbstractStringBuilder")) 4 84 1 (4 * n655900 + 8) [.ref q655894, .int p655896] (va_pl P655892 F655893) (pp_655904_AbstractStringBuilder_append D I P655892 F655893 q655894 q655895 p655896 p655897 p655898 f655899 n655900) gNA := by
  refine CtA_ofF hl0 (by decide +kernel) (Nat.le_of_ble_eq_true rfl) ?_
  refine G_aload_n 0 dr_cJ5_append_3fe6f_0 rfl ?_
  refine G_aload_n 0 dr_cJ5_append_3fe6f_1 rfl ?_
  refine Gp_get 3 hmq655894 heq655894 dr_cJ5_append_3fe6f_2 (gk_J4 D I) (Nat.le_of_ble_eq_true rfl) wr_7_64 rfl ?_
  refine G_iconst 1 dr_cJ5_append_3fe6f_5 (by decide +kernel) ?_
  refine G_iadd dr_cJ5_append_3fe6f_6 (G_nam fun z655905 hz655905 => ?_)
  have ez655905 : z655905.toInt = p655898.toInt + 1 := by rw [gI_add hz655905 bp655898 (gBl (show Int32.toInt 1 = 1 by decide)) (by decide) (by decide), show Int32.toInt 1 = 1 from by decide]
  have bz655905 : gB z655905 1 16777217 := gB_add (gI_add hz655905 bp655898 (gBl (show Int32.toInt 1 = 1 by decide)) (by decide) (by decide)) bp655898 (gBl (show Int32.toInt 1 = 1 by decide)) (by decide) (by decide)
  refine Gw_callVB (As := [.int z655905]) (gV_ok D I) (cp_655917_AbstractStringBuilder_ensureCapacityInternal l hl0 D I P655892 F655893 q655894 q655895 z655905 p655897 p655898 f655899 n655900 hmq655894 hmq655895 heq655894 heq655895 ⟨by omega, by omega⟩ bp655897 bp655898 bf655899 (by have qa0 : Int32.toInt 0 = 0 := (by decide); omega) (by have qa0 : Int32.toInt 0 = 0 := (by decide); omega)) dr_cJ5_append_3fe6f_7 ⟨wr_8_4, wr_1_19, wr_8_7, by decide, rfl, (Nat.le_of_ble_eq_true rfl), (Nat.le_of_ble_eq_true rfl)⟩ wr_8_6 wr_s_0 hmq655894 heq655894 rfl (show 0 + 1 ≤ 1 by first | omega | decide) (show 0 + (2 * n655900 + 2 + z655905.toInt.toNat) ≤ (4 * n655900 + 8) by first | omega | decide) (Nat.le_of_ble_eq_true rfl) (fun r656040 w656041 dc656037 ds656038 hp656039 => ?_) (fun _ _ _ _ _ z => z.elim)
  obtain ⟨P656050, F656051, q656042, n656043, f656044, rfl, rfl, hsb656052, hfr656053, he656054, he656055, hm656056, hq656057, hdc, hds, bf656044, x656045, x656046, x656047, x656048, ht656049⟩ := hp656039
  have hm656058 : q655894 ∈ P656050 := hsb656052 q655894 hmq655894
  have hm656059 : q655895 ∈ P656050 := hsb656052 q655895 hmq655895
  have hor656060 : q656042 = q655895 ∨ q656042 ∉ P655892 := hq656057.elim Or.inl (fun n => Or.inr (fun z => n ((rSub_rf (P := P655892)) _ z)))
  have hsb656061 : rSub P655892 P656050 := rSub_tr (rSub_rf (P := P655892)) hsb656052
  have he656062 : F656051 q655895 = .inl (I .byte, n655900, .inl f655899) := (hfr656053 q655895 hmq655895 (nm_c (rn_ao heq655895 heq655894) nm_n)).trans heq655895
  have hfr656063 : rFr [q655894] P655892 F655893 F656051 := rFr_call (rSub_rf (P := P655892)) (rFr_rf (W := []) (P := P655892) (F := F655893)) hfr656053 (fun b hb hn => ⟨nm_n, (nm_c (fun e => hn (e ▸ List.mem_cons_self)) nm_n)⟩)
  change G _ _ _ _ _ _ _ _ _ _ _
  refine G_widen (cs' := 1) (sl' := 2 * (n656043 - n655900)) (by omega) (by omega) ?_
  refine G_aload_n 0 dr_cJ5_append_3fe6f_10 rfl ?_
  refine Gw_callVB (As := []) (gV_ok D I) (cp_655818_AbstractStringBuilder_isLatin1 l hl0 D I P656050 F656051 q655894 q656042 p655897 p655898 f656044 n656043 hm656058 hm656056 he656054 he656055 bp655897 bp655898 bf656044 (by have qa0 : Int32.toInt 0 = 0 := (by decide); omega)) dr_cJ5_append_3fe6f_11 ⟨wr_8_33, wr_1_19, wr_8_37, by decide, rfl, (Nat.le_of_ble_eq_true rfl), (Nat.le_of_ble_eq_true rfl)⟩ wr_8_34 wr_8_36 hm656058 he656054 rfl (show 1 + 0 ≤ 1 by first | omega | decide) (show 2 * (n656043 - n655900) + 0 ≤ (4 * n655900 + 8) by first | omega | decide) (Nat.le_of_ble_eq_true rfl) (fun r656067 w656068 dc656064 ds656065 hp656066 => ?_) (fun _ _ _ _ _ z => z.elim)
  obtain ⟨rfl, rfl, hdc, hds⟩ := hp656066
  change G _ _ _ _ _ _ _ (.int 1 :: _) _ _ _
  refine G_widen (cs' := 1) (sl' := 2 * (n656043 - n655900) + 0) (by omega) (by omega) ?_
  refine G_if_eq 45 dr_cJ5_append_3fe6f_14 (by decide +kernel) (fun hc => absurd hc (by decide)) (fun _ => ?_)
  refine G_iload_n 1 dr_cJ5_append_3fe6f_17 rfl ?_
  refine Gw_callS (As := [.int p655896]) (gV_ok D I) (cp_655827_StringLatin1_canEncode l hl0 D I P656050 F656051 p655896 (gB_w bp655896 (by decide) (by decide))) dr_cJ5_append_3fe6f_18 ⟨wr_8_38, wr_1_28, wr_8_40, by decide, rfl, (Nat.le_of_ble_eq_true rfl), (Nat.le_of_ble_eq_true rfl)⟩ wr_8_39 (show 1 + 0 ≤ 1 by first | omega | decide) (show 2 * (n656043 - n655900) + 0 + 0 ≤ (4 * n655900 + 8) by first | omega | decide) (Nat.le_of_ble_eq_true rfl) (fun r656072 w656073 dc656069 ds656070 hp656071 => ?_) (fun _ _ _ _ _ z => z.elim)
  rcases hp656071 with ⟨rfl, rfl, hdc, hds, r656074, r656075⟩ | ⟨rfl, rfl, hdc, hds, r656076, r656077⟩
  · exact absurd (show False by omega) not_false
  · change G _ _ _ _ _ _ _ (.int 1 :: _) _ _ _
    refine G_widen (cs' := 1) (sl' := 2 * (n656043 - n655900) + 0 + 0) (by omega) (by omega) ?_
    refine G_if_eq 45 dr_cJ5_append_3fe6f_21 (by decide +kernel) (fun hc => absurd hc (by decide)) (fun _ => ?_)
    refine G_aload_n 0 dr_cJ5_append_3fe6f_24 rfl ?_
    refine Gp_get 0 hm656058 he656054 dr_cJ5_append_3fe6f_25 (gk_J4 D I) (Nat.le_of_ble_eq_true rfl) wr_7_60 rfl ?_
    refine G_aload_n 0 dr_cJ5_append_3fe6f_28 rfl ?_
    refine G_dup dr_cJ5_append_3fe6f_29 rfl ?_
    refine Gp_get 3 hm656058 he656054 dr_cJ5_append_3fe6f_30 (gk_J4 D I) (Nat.le_of_ble_eq_true rfl) wr_7_64 rfl ?_
    refine G_dup_x1 dr_cJ5_append_3fe6f_33 rfl rfl ?_
    refine G_iconst 1 dr_cJ5_append_3fe6f_34 (by decide +kernel) ?_
    refine G_iadd dr_cJ5_append_3fe6f_35 (G_nam fun z656079 hz656079 => ?_)
    have ez656079 : z656079.toInt = p655898.toInt + 1 := by rw [gI_add hz656079 bp655898 (gBl (show Int32.toInt 1 = 1 by decide)) (by decide) (by decide), show Int32.toInt 1 = 1 from by decide]
    have bz656079 : gB z656079 1 16777217 := gB_add (gI_add hz656079 bp655898 (gBl (show Int32.toInt 1 = 1 by decide)) (by decide) (by decide)) bp655898 (gBl (show Int32.toInt 1 = 1 by decide)) (by decide) (by decide)
    refine Gp_put 3 hm656058 he656054 dr_cJ5_append_3fe6f_36 (gk_J4 D I) (Nat.le_of_ble_eq_true rfl) wr_7_64 rfl rfl rfl (Nat.le_of_ble_eq_true rfl) (fun F656080 e656081 n656082 => ?_)
    have he656083 : F656080 q655895 = .inl (I .byte, n655900, .inl f655899) := (n656082 q655895 (rn_ao he656062 he656054)).trans he656062
    have he656084 : F656080 q656042 = .inl (I .byte, n656043, .inl f656044) := (n656082 q656042 (rn_ao he656055 he656054)).trans he656055
    have he656085 : F656080 q655894 = .inr (1, [.ref q656042, .int 0, .int p655897, .int z656079]) := e656081
    have hfr656086 : rFr [q655894] P655892 F655893 F656080 := rFr_put' List.mem_cons_self hfr656063 n656082
    refine G_iload_n 1 dr_cJ5_append_3fe6f_39 rfl ?_
    refine G_i2b dr_cJ5_append_3fe6f_40 (G_nam fun z656087 hz656087 => ?_)
    have bz656087 : gB z656087 (-128) 127 := gB_i2b hz656087
    refine Gp_bast 1 hm656056 he656084 dr_cJ5_append_3fe6f_41 rfl (gB_inr (by omega) (by omega)) (fun F656088 e656089 n656090 => ?_)
    obtain ⟨f656091, hf656091⟩ : ∃ z, z = upd f656044 p655898.toNatClampNeg (vp_nar .byte z656087) := ⟨_, rfl⟩
    rw [← hf656091] at e656089
    have he656093 : F656088 q655894 = .inr (1, [.ref q656042, .int 0, .int p655897, .int z656079]) := (n656090 q655894 (rn_oa he656085 he656084)).trans he656085
    have he656094 : F656088 q656042 = .inl (I .byte, n656043, .inl f656091) := e656089
    have hfr656095 : rFr [q655895, q655894] P655892 F655893 F656088 := rFr_eit hor656060 hfr656086 n656090
    have bf656091 : gF f656091 (-128) 127 := gF_upd hf656091 bf656044 gB_byte
    refine G_goto 75 dr_cJ5_append_3fe6f_42 (by decide +kernel) ?_
    refine G_aload_n 0 dr_cJ5_append_3fe6f_75 rfl ?_
    exact G_aretA (FieldType.object "java/lang/AbstractStringBuilder") dr_cJ5_append_3fe6f_76 rfl (by first | exact Or.inl ⟨_, rfl⟩ | exact Or.inr ⟨_, rfl⟩) (Or.inr ⟨_, rfl⟩) (Nat.le_of_ble_eq_true rfl) (show 2 * (n656043 - n655900) + 0 + 0 ≤ (4 * n655900 + 8) by omega) ⟨P656050, F656088, z656079, q656042, n656043, f656091, rfl, rfl, hsb656061, hfr656095, he656093, he656094, hm656056, hor656060, (Nat.le_of_ble_eq_true rfl), (by omega), ⟨by omega, by omega⟩, bf656091, (by have qa0 : Int32.toInt 0 = 0 := (by decide); omega), (by have qa0 : Int32.toInt 0 = 0 := (by decide); omega), (by have qa0 : Int32.toInt 0 = 0 := (by decide); omega), (by have qa0 : Int32.toInt 0 = 0 := (by decide); omega), (fun R c1 => c1 z655905 n656043 f656044 z656079 z656087 f656091 ez655905 ht656049 r656077 ez656079 hz656087 hf656091)⟩
/- tr_RStringBuilder_append2: a.0...count, a.0.value.#, a.0.value.[] -/
def tr_RStringBuilder_append2 (a1 : Int32) (a0_count : Int32) (a0_value_v : Nat → Int32) (a0_value_n : Nat) (o1 : Int32) (o2 : Nat) (o3 : Nat → Int32) : Prop := ∀ R : (Int32) → (Nat) → (Nat → Int32) → Prop,
  (∀ (x1 : Int32) (x2 : Nat) (x3 : Nat → Int32), gB x1 1 16777216 → tr_RAbstractStringBuilder_append2 a1 a0_count a0_value_v a0_value_n x1 x2 x3 → R x1 x2 x3) →
  R o1 o2 o3
abbrev ky_655891_StringBuilder_append : gKey := (cJ4_append_cf468, 2, "java/lang/StringBuilder", (some (FieldType.object "java/lang/StringBuilder")), [], "append", fun _ _ => True)
def pp_655891_StringBuilder_append (D : va_G) (I : FieldType → ClassId) (P655879 : List Nat) (F655880 : Nat → va_E) (q655881 : Nat) (q655882 : Nat) (p655883 : Int32) (p655884 : Int32) (p655885 : Int32) (f655886 : Nat → Int32) (n655887 : Nat) : Option Value → va_W → Nat → Nat → Prop := fun r w dc ds => ∃ (P656133 : List Nat) (F656134 : Nat → va_E) (o656129 : Int32) (q656130 : Nat) (n656131 : Nat) (f656132 : Nat → Int32), r = some (.ref q655881) ∧ w = va_pl P656133 F656134 ∧ rSub P655879 P656133 ∧ rFr [q655882, q655881] P655879 F655880 F656134 ∧ F656134 q655881 = .inr (1, [.ref q656130, .int 0, .int p655884, .int o656129]) ∧ F656134 q656130 = .inl (I .byte, n656131, .inl f656132) ∧ q656130 ∈ P656133 ∧ (q656130 = q655882 ∨ q656130 ∉ P655879) ∧ dc ≤ 1 ∧ ds ≤ 2 * (n656131 - n655887) ∧ gB o656129 1 16777216 ∧ gF f656132 (-128) 127 ∧ o656129.toInt = p655885.toInt + 1 ∧ o656129.toInt ≤ (n656131 : Int) ∧ (n655887 : Int) ≤ (n656131 : Int) ∧ (n656131 : Int) ≤ 2 * (n655887 : Int) + 2 ∧ tr_RStringBuilder_append2 p655883 p655885 f655886 n655887 o656129 n656131 f656132
set_option maxRecDepth 100000 in
set_option maxHeartbeats 4000000 in
theorem cp_655891_StringBuilder_append (l : Launch) (hl0 : l.stackTraces = false) (D : va_G) (I : FieldType → ClassId) (P655879 : List Nat) (F655880 : Nat → va_E) (q655881 : Nat) (q655882 : Nat) (p655883 : Int32) (p655884 : Int32) (p655885 : Int32) (f655886 : Nat → Int32) (n655887 : Nat) (hmq655881 : q655881 ∈ P655879) (hmq655882 : q655882 ∈ P655879) (heq655881 : F655880 q655881 = .inr (1, [.ref q655882, .int 0, .int p655884, .int p655885])) (heq655882 : F655880 q655882 = .inl (I .byte, n655887, .inl f655886)) (bp655883 : gB p655883 0 255) (bp655884 : gB p655884 0 1) (bp655885 : gB p655885 0 16777216) (bf655886 : gF f655886 (-128) 127) (x655888 : (n655887 : Int) ≤ 8388608 - 100000) (x655889 : p655885.toInt ≤ (n655887 : Int)) (x655890 : ((n655887 : Int) ≤ 16777216)) : CtA (gV D I) l yJ4_append_cf468 cJ4_append_cf468 2 (some (FieldType.object "java/lang/StringBuilder")) 5 105 1 (4 * n655887 + 8) [.ref q655881, .int p655883] (va_pl P655879 F655880) (pp_655891_StringBuilder_append D I P655879 F655880 q655881 q655882 p655883 p655884 p655885 f655886 n655887) gNA := by
  refine CtA_ofF hl0 (by decide +kernel) (Nat.le_of_ble_eq_true rfl) ?_
  refine G_aload_n 0 dr_cJ4_append_cf468_0 rfl ?_
  refine G_iload_n 1 dr_cJ4_append_cf468_1 rfl ?_
  refine Gw_callSU (As := [.int p655883]) (gV_ok D I) (cp_655904_AbstractStringBuilder_append l hl0 D I P655879 F655880 q655881 q655882 p655883 p655884 p655885 f655886 n655887 hmq655881 hmq655882 heq655881 heq655882 bp655883 bp655884 bp655885 bf655886 (by have qa0 : Int32.toInt 0 = 0 := (by decide); omega) (by have qa0 : Int32.toInt 0 = 0 := (by decide); omega) (by have qa0 : Int32.toInt 0 = 0 := (by decide); omega)) dr_cJ4_append_cf468_2 ⟨wr_8_1, wr_1_19, wr_8_3, by decide, rfl, (Nat.le_of_ble_eq_true rfl), (Nat.le_of_ble_eq_true rfl)⟩ wr_8_2 wr_11_224 wr_7_73 wr_7_44 (by decide) hmq655881 heq655881 rfl (show 0 + 1 ≤ 1 by first | omega | decide) (show 0 + (4 * n655887 + 8) ≤ (4 * n655887 + 8) by first | omega | decide) (Nat.le_of_ble_eq_true rfl) (fun r656105 w656106 dc656102 ds656103 hp656104 => ?_)
  obtain ⟨P656116, F656117, o656107, q656108, n656109, f656110, rfl, rfl, hsb656118, hfr656119, he656120, he656121, hm656122, hq656123, hdc, hds, bo656107, bf656110, x656111, x656112, x656113, x656114, ht656115⟩ := hp656104
  have hm656124 : q655881 ∈ P656116 := hsb656118 q655881 hmq655881
  have hm656125 : q655882 ∈ P656116 := hsb656118 q655882 hmq655882
  have hor656126 : q656108 = q655882 ∨ q656108 ∉ P655879 := hq656123.elim Or.inl (fun n => Or.inr (fun z => n ((rSub_rf (P := P655879)) _ z)))
  have hsb656127 : rSub P655879 P656116 := rSub_tr (rSub_rf (P := P655879)) hsb656118
  have hfr656128 : rFr [q655882, q655881] P655879 F655880 F656117 := rFr_call (rSub_rf (P := P655879)) (rFr_rf (W := []) (P := P655879) (F := F655880)) hfr656119 (fun b hb hn => ⟨nm_n, (nm_c (fun e => hn (e ▸ List.mem_cons_self)) (nm_c (fun e => hn (e ▸ (List.mem_cons_of_mem _ List.mem_cons_self))) nm_n))⟩)
  change G _ _ _ _ _ _ _ (.ref q655881 :: _) _ _ _
  refine G_widen (cs' := 1) (sl' := 2 * (n656109 - n655887)) (by omega) (by omega) ?_
  refine G_pop dr_cJ4_append_cf468_5 rfl ?_
  refine G_aload_n 0 dr_cJ4_append_cf468_6 rfl ?_
  exact G_aretA (FieldType.object "java/lang/StringBuilder") dr_cJ4_append_cf468_7 rfl (by first | exact Or.inl ⟨_, rfl⟩ | exact Or.inr ⟨_, rfl⟩) (Or.inr ⟨_, rfl⟩) (Nat.le_of_ble_eq_true rfl) (show 2 * (n656109 - n655887) ≤ (4 * n655887 + 8) by omega) ⟨P656116, F656117, o656107, q656108, n656109, f656110, rfl, rfl, hsb656127, hfr656128, he656120, he656121, hm656122, hor656126, (Nat.le_of_ble_eq_true rfl), (by omega), bo656107, bf656110, (by have qa0 : Int32.toInt 0 = 0 := (by decide); omega), (by have qa0 : Int32.toInt 0 = 0 := (by decide); omega), (by have qa0 : Int32.toInt 0 = 0 := (by decide); omega), (by have qa0 : Int32.toInt 0 = 0 := (by decide); omega), (fun R c1 => c1 o656107 n656109 f656110 bo656107 ht656115)⟩
/- tr_RAbstractStringBuilder_setLength: a.0...maybeLatin1 -/
def tr_RAbstractStringBuilder_setLength (a0_maybeLatin1 : Int32) (a0_count : Int32) (a0_value_n : Nat) (o1 : Int32) : Prop := ∀ R : (Int32) → Prop,
  (tr_RAbstractStringBuilder_ensureCapacityInternal (0 : Int32) a0_value_n → 0 ≤ a0_count.toInt → a0_count.toInt ≤ 0 → R a0_maybeLatin1) →
  (tr_RAbstractStringBuilder_ensureCapacityInternal (0 : Int32) a0_value_n → 0 ≤ a0_count.toInt → 0 < a0_count.toInt → R (1 : Int32)) →
  R o1
abbrev ky_656154_AbstractStringBuilder_setLength : gKey := (cJ5_setLength_d00df, 2, "java/lang/AbstractStringBuilder", none, [], "setLength", fun _ _ => True)
def pp_656154_AbstractStringBuilder_setLength (D : va_G) (I : FieldType → ClassId) (P656145 : List Nat) (F656146 : Nat → va_E) (q656147 : Nat) (q656148 : Nat) (p656149 : Int32) (p656150 : Int32) (f656151 : Nat → Int32) (n656152 : Nat) : Option Value → va_W → Nat → Nat → Prop := fun r w dc ds => ∃ (F656187 : Nat → va_E) (o656185 : Int32), r = none ∧ w = va_pl P656145 F656187 ∧ rFr [q656147] P656145 F656146 F656187 ∧ F656187 q656147 = .inr (1, [.ref q656148, .int 0, .int o656185, .int 0]) ∧ F656187 q656148 = .inl (I .byte, n656152, .inl f656151) ∧ dc ≤ 0 ∧ ds ≤ 0 ∧ gB o656185 0 1 ∧ 0 = 0 ∧ tr_RAbstractStringBuilder_setLength p656149 p656150 n656152 o656185
set_option maxRecDepth 100000 in
set_option maxHeartbeats 4000000 in
theorem cp_656154_AbstractStringBuilder_setLength (l : Launch) (hl0 : l.stackTraces = false) (D : va_G) (I : FieldType → ClassId) (P656145 : List Nat) (F656146 : Nat → va_E) (q656147 : Nat) (q656148 : Nat) (p656149 : Int32) (p656150 : Int32) (f656151 : Nat → Int32) (n656152 : Nat) (hmq656147 : q656147 ∈ P656145) (hmq656148 : q656148 ∈ P656145) (heq656147 : F656146 q656147 = .inr (1, [.ref q656148, .int 0, .int p656149, .int p656150])) (heq656148 : F656146 q656148 = .inl (I .byte, n656152, .inl f656151)) (bp656149 : gB p656149 0 1) (bp656150 : gB p656150 0 16777216) (bf656151 : gF f656151 (-128) 127) (x656153 : ((n656152 : Int) ≤ 16777216)) : CtA (gV D I) l yJ5_setLength_d00df cJ5_setLength_d00df 2 none 1 22 0 0 [.ref q656147, .int 0] (va_pl P656145 F656146) (pp_656154_AbstractStringBuilder_setLength D I P656145 F656146 q656147 q656148 p656149 p656150 f656151 n656152) gNA := by
  refine CtA_ofF hl0 (by decide +kernel) (Nat.le_of_ble_eq_true rfl) ?_
  refine G_iload_n 1 dr_cJ5_setLength_d00df_0 rfl ?_
  refine G_if_ge 13 dr_cJ5_setLength_d00df_1 (by decide +kernel) (fun _ => ?_) (fun hc => absurd hc (by decide))
  refine G_aload_n 0 dr_cJ5_setLength_d00df_13 rfl ?_
  refine G_iload_n 1 dr_cJ5_setLength_d00df_14 rfl ?_
  refine Gw_callVB (As := [.int 0]) (gV_ok D I) (cp_655796_AbstractStringBuilder_ensureCapacityInternal l hl0 D I P656145 F656146 q656147 q656148 0 p656149 p656150 f656151 n656152 hmq656147 hmq656148 heq656147 heq656148 (gB_w (gBl (show Int32.toInt 0 = 0 by decide)) (by decide) (by decide)) bp656149 bp656150 bf656151 (by have qa0 : Int32.toInt 0 = 0 := (by decide); omega) (by have qa0 : Int32.toInt 0 = 0 := (by decide); omega)) dr_cJ5_setLength_d00df_15 ⟨wr_8_4, wr_1_19, wr_8_7, by decide, rfl, (Nat.le_of_ble_eq_true rfl), (Nat.le_of_ble_eq_true rfl)⟩ wr_8_6 wr_s_0 hmq656147 heq656147 rfl (show 0 + 0 ≤ 0 by first | omega | decide) (show 0 + 0 ≤ 0 by first | omega | decide) (Nat.le_of_ble_eq_true rfl) (fun r656158 w656159 dc656155 ds656156 hp656157 => ?_) (fun _ _ _ _ _ z => z.elim)
  obtain ⟨rfl, rfl, hdc, hds, ht656160⟩ := hp656157
  change G _ _ _ _ _ _ _ _ _ _ _
  refine G_widen (cs' := 0) (sl' := 0) (by omega) (by omega) ?_
  refine G_aload_n 0 dr_cJ5_setLength_d00df_18 rfl ?_
  refine Gp_get 3 hmq656147 heq656147 dr_cJ5_setLength_d00df_19 (gk_J4 D I) (Nat.le_of_ble_eq_true rfl) wr_7_64 rfl ?_
  refine G_iload_n 1 dr_cJ5_setLength_d00df_22 rfl ?_
  refine G_icmp_ge 63 dr_cJ5_setLength_d00df_23 (by decide +kernel) (fun hc656161 => ?_) (fun hc => absurd (show False by have := gj_nleL hc (show Int32.toInt 0 = 0 by decide); omega) not_false)
  have r656163 : 0 ≤ p656150.toInt := gj_leL hc656161 (show Int32.toInt 0 = 0 by decide)
  refine G_aload_n 0 dr_cJ5_setLength_d00df_63 rfl ?_
  refine Gp_get 3 hmq656147 heq656147 dr_cJ5_setLength_d00df_64 (gk_J4 D I) (Nat.le_of_ble_eq_true rfl) wr_7_64 rfl ?_
  refine G_iload_n 1 dr_cJ5_setLength_d00df_67 rfl ?_
  refine G_icmp_le 76 dr_cJ5_setLength_d00df_68 (by decide +kernel) (fun hc656164 => ?_) (fun hc656164 => ?_)
  · have r656165 : p656150.toInt ≤ 0 := gj_le hc656164 (show Int32.toInt 0 = 0 by decide)
    have bp656150' : gB p656150 0 0 := ⟨by omega, by omega⟩
    refine G_aload_n 0 dr_cJ5_setLength_d00df_76 rfl ?_
    refine G_iload_n 1 dr_cJ5_setLength_d00df_77 rfl ?_
    refine Gp_put 3 hmq656147 heq656147 dr_cJ5_setLength_d00df_78 (gk_J4 D I) (Nat.le_of_ble_eq_true rfl) wr_7_64 rfl rfl rfl (Nat.le_of_ble_eq_true rfl) (fun F656166 e656167 n656168 => ?_)
    have he656169 : F656166 q656148 = .inl (I .byte, n656152, .inl f656151) := (n656168 q656148 (rn_ao heq656148 heq656147)).trans heq656148
    have he656170 : F656166 q656147 = .inr (1, [.ref q656148, .int 0, .int p656149, .int 0]) := e656167
    have hfr656171 : rFr [q656147] P656145 F656146 F656166 := rFr_put (rFr_rf (W := []) (P := P656145) (F := F656146)) n656168
    exact G_vretA dr_cJ5_setLength_d00df_81 rfl (Nat.le_of_ble_eq_true rfl) (Nat.le_of_ble_eq_true rfl) ⟨F656166, p656149, rfl, rfl, hfr656171, he656170, he656169, (Nat.le_of_ble_eq_true rfl), (Nat.le_of_ble_eq_true rfl), bp656149, (by have qa0 : Int32.toInt 0 = 0 := (by decide); omega), (fun R c1 c2 => c1 ht656160 r656163 r656165)⟩
  · have r656172 : 0 < p656150.toInt := gj_nle hc656164 (show Int32.toInt 0 = 0 by decide)
    have bp656150' : gB p656150 1 16777216 := ⟨by omega, by omega⟩
    refine G_aload_n 0 dr_cJ5_setLength_d00df_71 rfl ?_
    refine G_iconst 1 dr_cJ5_setLength_d00df_72 (by decide +kernel) ?_
    refine Gp_put 2 hmq656147 heq656147 dr_cJ5_setLength_d00df_73 (gk_J4 D I) (Nat.le_of_ble_eq_true rfl) wr_7_62 rfl rfl rfl (Nat.le_of_ble_eq_true rfl) (fun F656173 e656174 n656175 => ?_)
    have he656176 : F656173 q656148 = .inl (I .byte, n656152, .inl f656151) := (n656175 q656148 (rn_ao heq656148 heq656147)).trans heq656148
    have he656177 : F656173 q656147 = .inr (1, [.ref q656148, .int 0, .int 1, .int p656150]) := e656174
    have hfr656178 : rFr [q656147] P656145 F656146 F656173 := rFr_put (rFr_rf (W := []) (P := P656145) (F := F656146)) n656175
    refine G_aload_n 0 dr_cJ5_setLength_d00df_76 rfl ?_
    refine G_iload_n 1 dr_cJ5_setLength_d00df_77 rfl ?_
    refine Gp_put 3 hmq656147 he656177 dr_cJ5_setLength_d00df_78 (gk_J4 D I) (Nat.le_of_ble_eq_true rfl) wr_7_64 rfl rfl rfl (Nat.le_of_ble_eq_true rfl) (fun F656179 e656180 n656181 => ?_)
    have he656182 : F656179 q656148 = .inl (I .byte, n656152, .inl f656151) := (n656181 q656148 (rn_ao he656176 he656177)).trans he656176
    have he656183 : F656179 q656147 = .inr (1, [.ref q656148, .int 0, .int 1, .int 0]) := e656180
    have hfr656184 : rFr [q656147] P656145 F656146 F656179 := rFr_put' List.mem_cons_self hfr656178 n656181
    exact G_vretA dr_cJ5_setLength_d00df_81 rfl (Nat.le_of_ble_eq_true rfl) (Nat.le_of_ble_eq_true rfl) ⟨F656179, 1, rfl, rfl, hfr656184, he656183, he656182, (Nat.le_of_ble_eq_true rfl), (Nat.le_of_ble_eq_true rfl), (gB_w (gBl (show Int32.toInt 1 = 1 by decide)) (by decide) (by decide)), (by have qa0 : Int32.toInt 0 = 0 := (by decide); have qa1 : Int32.toInt 1 = 1 := (by decide); omega), (fun R c1 c2 => c2 ht656160 r656163 r656172)⟩
/- tr_RStringBuilder_setLength: a.0...maybeLatin1 -/
def tr_RStringBuilder_setLength (a0_maybeLatin1 : Int32) (a0_count : Int32) (a0_value_n : Nat) (o1 : Int32) : Prop := ∀ R : (Int32) → Prop,
  (∀ (x1 : Int32), gB x1 0 1 → tr_RAbstractStringBuilder_setLength a0_maybeLatin1 a0_count a0_value_n x1 → R x1) →
  R o1
abbrev ky_656144_StringBuilder_setLength : gKey := (cJ4_setLength_d00df, 2, "java/lang/StringBuilder", none, [], "setLength", fun _ _ => True)
def pp_656144_StringBuilder_setLength (D : va_G) (I : FieldType → ClassId) (P656135 : List Nat) (F656136 : Nat → va_E) (q656137 : Nat) (q656138 : Nat) (p656139 : Int32) (p656140 : Int32) (f656141 : Nat → Int32) (n656142 : Nat) : Option Value → va_W → Nat → Nat → Prop := fun r w dc ds => ∃ (F656204 : Nat → va_E) (o656202 : Int32), r = none ∧ w = va_pl P656135 F656204 ∧ rFr [q656137] P656135 F656136 F656204 ∧ F656204 q656137 = .inr (1, [.ref q656138, .int 0, .int o656202, .int 0]) ∧ F656204 q656138 = .inl (I .byte, n656142, .inl f656141) ∧ dc ≤ 0 ∧ ds ≤ 0 ∧ gB o656202 0 1 ∧ 0 = 0 ∧ tr_RStringBuilder_setLength p656139 p656140 n656142 o656202
set_option maxRecDepth 100000 in
set_option maxHeartbeats 4000000 in
theorem cp_656144_StringBuilder_setLength (l : Launch) (hl0 : l.stackTraces = false) (D : va_G) (I : FieldType → ClassId) (P656135 : List Nat) (F656136 : Nat → va_E) (q656137 : Nat) (q656138 : Nat) (p656139 : Int32) (p656140 : Int32) (f656141 : Nat → Int32) (n656142 : Nat) (hmq656137 : q656137 ∈ P656135) (hmq656138 : q656138 ∈ P656135) (heq656137 : F656136 q656137 = .inr (1, [.ref q656138, .int 0, .int p656139, .int p656140])) (heq656138 : F656136 q656138 = .inl (I .byte, n656142, .inl f656141)) (bp656139 : gB p656139 0 1) (bp656140 : gB p656140 0 16777216) (bf656141 : gF f656141 (-128) 127) (x656143 : ((n656142 : Int) ≤ 16777216)) : CtA (gV D I) l yJ4_setLength_d00df cJ4_setLength_d00df 2 none 2 43 0 0 [.ref q656137, .int 0] (va_pl P656135 F656136) (pp_656144_StringBuilder_setLength D I P656135 F656136 q656137 q656138 p656139 p656140 f656141 n656142) gNA := by
  refine CtA_ofF hl0 (by decide +kernel) (Nat.le_of_ble_eq_true rfl) ?_
  refine G_aload_n 0 dr_cJ4_setLength_d00df_0 rfl ?_
  refine G_iload_n 1 dr_cJ4_setLength_d00df_1 rfl ?_
  refine Gw_callSU (As := [.int 0]) (gV_ok D I) (cp_656154_AbstractStringBuilder_setLength l hl0 D I P656135 F656136 q656137 q656138 p656139 p656140 f656141 n656142 hmq656137 hmq656138 heq656137 heq656138 bp656139 bp656140 bf656141 (by have qa0 : Int32.toInt 0 = 0 := (by decide); omega)) dr_cJ4_setLength_d00df_2 ⟨wr_11_129, wr_1_19, wr_11_131, by decide, rfl, (Nat.le_of_ble_eq_true rfl), (Nat.le_of_ble_eq_true rfl)⟩ wr_11_130 wr_11_233 wr_7_73 wr_7_44 (by decide) hmq656137 heq656137 rfl (show 0 + 0 ≤ 0 by first | omega | decide) (show 0 + 0 ≤ 0 by first | omega | decide) (Nat.le_of_ble_eq_true rfl) (fun r656191 w656192 dc656188 ds656189 hp656190 => ?_)
  obtain ⟨F656196, o656193, rfl, rfl, hfr656198, he656199, he656200, hdc, hds, bo656193, x656194, ht656195⟩ := hp656190
  have hfr656201 : rFr [q656137] P656135 F656136 F656196 := rFr_call (rSub_rf (P := P656135)) (rFr_rf (W := []) (P := P656135) (F := F656136)) hfr656198 (fun b hb hn => ⟨nm_n, (nm_c (fun e => hn (e ▸ List.mem_cons_self)) nm_n)⟩)
  change G _ _ _ _ _ _ _ _ _ _ _
  refine G_widen (cs' := 0) (sl' := 0) (by omega) (by omega) ?_
  exact G_vretA dr_cJ4_setLength_d00df_5 rfl (Nat.le_of_ble_eq_true rfl) (Nat.le_of_ble_eq_true rfl) ⟨F656196, o656193, rfl, rfl, hfr656201, he656199, he656200, (Nat.le_of_ble_eq_true rfl), (Nat.le_of_ble_eq_true rfl), bo656193, (by have qa0 : Int32.toInt 0 = 0 := (by decide); omega), (fun R c1 => c1 o656193 bo656193 ht656195)⟩
abbrev ky_656216_AbstractStringBuilder_init : gKey := (cJ5_init_d00df, 2, "java/lang/AbstractStringBuilder", none, [], "<init>", fun _ _ => True)
def pp_656216_AbstractStringBuilder_init (D : va_G) (I : FieldType → ClassId) (P656211 : List Nat) (F656212 : Nat → va_E) (q656213 : Nat) (p656214 : Int32) (p656215 : Int32) : Option Value → va_W → Nat → Nat → Prop := fun r w dc ds => ∃ (P656244 : List Nat) (F656245 : Nat → va_E) (q656243 : Nat), r = none ∧ w = va_pl P656244 F656245 ∧ rSub P656211 P656244 ∧ rFr [q656213] P656211 F656212 F656245 ∧ F656245 q656213 = .inr (1, [.ref q656243, .int 0, .int p656214, .int p656215]) ∧ F656245 q656243 = .inl (I .byte, 16, .inl (fun _ => 0)) ∧ q656243 ∈ P656244 ∧ q656243 ∉ P656211 ∧ dc ≤ 1 ∧ ds ≤ 16
set_option maxRecDepth 100000 in
set_option maxHeartbeats 4000000 in
theorem cp_656216_AbstractStringBuilder_init (l : Launch) (hl0 : l.stackTraces = false) (D : va_G) (I : FieldType → ClassId) (P656211 : List Nat) (F656212 : Nat → va_E) (q656213 : Nat) (p656214 : Int32) (p656215 : Int32) (hmq656213 : q656213 ∈ P656211) (heq656213 : F656212 q656213 = .inr (1, [.null, .int 0, .int p656214, .int p656215])) (bp656214 : gB p656214 0 1) (bp656215 : gB p656215 0 16777216) : CtA (gV D I) l yJ5_init_d00df cJ5_init_d00df 2 none 1 12 1 16 [.ref q656213, .int 16] (va_pl P656211 F656212) (pp_656216_AbstractStringBuilder_init D I P656211 F656212 q656213 p656214 p656215) gNA := by
  refine CtA_ofF hl0 (by decide +kernel) (Nat.le_of_ble_eq_true rfl) ?_
  refine G_aload_n 0 dr_cJ5_init_d00df_0 rfl ?_
  refine G_obj dr_cJ5_init_d00df_1 wr_7_51 wr_1_51 wr_1_52 (Nat.le_of_ble_eq_true rfl) (Nat.le_of_ble_eq_true rfl) ?_
  refine G_gets dr_cJ5_init_d00df_4 wr_7_52 gz_cs (fun x hx => ?_)
  subst hx
  refine G_if_eq 25 dr_cJ5_init_d00df_7 (by decide +kernel) (fun hc => absurd hc (by decide)) (fun _ => ?_)
  refine G_aload_n 0 dr_cJ5_init_d00df_10 rfl ?_
  refine G_iload_n 1 dr_cJ5_init_d00df_11 rfl ?_
  refine G_newa 1 (16, .inl (fun _ => 0)) dr_cJ5_init_d00df_12 rfl rfl (by intro C h; cases h) wr_1_66 (fun _ => ga_byte _ _) (by decide) (by decide) (by decide) (show 0 + 1 ≤ 1 by first | omega | decide) (show 0 + 16 ≤ 16 by first | omega | decide) (fun q656217 => Gp_in (fun P656218 F656219 hq656220 hP656221 e656222 n656223 => ?_))
  refine G_widen (cs' := 1) (sl' := 16) (by omega) (by omega) ?_
  have he656224 : F656219 q656213 = .inr (1, [.null, .int 0, .int p656214, .int p656215]) := (n656223 q656213 (fun h => hq656220 (h ▸ hmq656213))).trans heq656213
  have he656225 : F656219 q656217 = .inl (I .byte, 16, .inl (fun _ => 0)) := e656222
  have hm656226 : q656213 ∈ P656218 := (hP656221 q656213).mpr (Or.inl hmq656213)
  have hm656227 : q656217 ∈ P656218 := (hP656221 q656217).mpr (Or.inr rfl)
  have hq656228 : q656217 ∉ P656211 := fun z => hq656220 ((rSub_rf (P := P656211)) q656217 z)
  have hfr656229 : rFr [] P656211 F656212 F656219 := rFr_new (rSub_rf (P := P656211)) hq656220 (rFr_rf (W := []) (P := P656211) (F := F656212)) n656223
  have hsb656230 : rSub P656211 P656218 := rSub_new (rSub_rf (P := P656211)) hP656221
  refine Gp_put 0 hm656226 he656224 dr_cJ5_init_d00df_14 (gk_J4 D I) (Nat.le_of_ble_eq_true rfl) wr_7_60 rfl rfl rfl (Nat.le_of_ble_eq_true rfl) (fun F656231 e656232 n656233 => ?_)
  have he656234 : F656231 q656217 = .inl (I .byte, 16, .inl (fun _ => 0)) := (n656233 q656217 (fun h => hq656228 (h ▸ hmq656213))).trans he656225
  have he656235 : F656231 q656213 = .inr (1, [.ref q656217, .int 0, .int p656214, .int p656215]) := e656232
  have hfr656236 : rFr [q656213] P656211 F656212 F656231 := rFr_put hfr656229 n656233
  refine G_aload_n 0 dr_cJ5_init_d00df_17 rfl ?_
  refine G_iconst 0 dr_cJ5_init_d00df_18 (by decide +kernel) ?_
  refine Gp_put 1 hm656226 he656235 dr_cJ5_init_d00df_19 (gk_J4 D I) (Nat.le_of_ble_eq_true rfl) wr_7_61 rfl rfl rfl (Nat.le_of_ble_eq_true rfl) (fun F656237 e656238 n656239 => ?_)
  have he656240 : F656237 q656217 = .inl (I .byte, 16, .inl (fun _ => 0)) := (n656239 q656217 (fun h => hq656228 (h ▸ hmq656213))).trans he656234
  have he656241 : F656237 q656213 = .inr (1, [.ref q656217, .int 0, .int p656214, .int p656215]) := e656238
  have hfr656242 : rFr [q656213] P656211 F656212 F656237 := rFr_put' List.mem_cons_self hfr656236 n656239
  refine G_goto 38 dr_cJ5_init_d00df_22 (by decide +kernel) ?_
  exact G_vretA dr_cJ5_init_d00df_38 rfl (Nat.le_of_ble_eq_true rfl) (Nat.le_of_ble_eq_true rfl) ⟨P656218, F656237, q656217, rfl, rfl, hsb656230, hfr656242, he656241, he656240, hm656227, hq656228, (Nat.le_of_ble_eq_true rfl), (Nat.le_of_ble_eq_true rfl)⟩
abbrev ky_656210_StringBuilder_init : gKey := (cJ4_init_da8c8, 1, "java/lang/StringBuilder", none, [], "<init>", fun _ _ => True)
def pp_656210_StringBuilder_init (D : va_G) (I : FieldType → ClassId) (P656205 : List Nat) (F656206 : Nat → va_E) (q656207 : Nat) (p656208 : Int32) (p656209 : Int32) : Option Value → va_W → Nat → Nat → Prop := fun r w dc ds => ∃ (P656265 : List Nat) (F656266 : Nat → va_E) (q656264 : Nat), r = none ∧ w = va_pl P656265 F656266 ∧ rSub P656205 P656265 ∧ rFr [q656207] P656205 F656206 F656266 ∧ F656266 q656207 = .inr (1, [.ref q656264, .int 0, .int p656208, .int p656209]) ∧ F656266 q656264 = .inl (I .byte, 16, .inl (fun _ => 0)) ∧ q656264 ∈ P656265 ∧ q656264 ∉ P656205 ∧ dc ≤ 1 ∧ ds ≤ 16
set_option maxRecDepth 100000 in
set_option maxHeartbeats 4000000 in
theorem cp_656210_StringBuilder_init (l : Launch) (hl0 : l.stackTraces = false) (D : va_G) (I : FieldType → ClassId) (P656205 : List Nat) (F656206 : Nat → va_E) (q656207 : Nat) (p656208 : Int32) (p656209 : Int32) (hmq656207 : q656207 ∈ P656205) (heq656207 : F656206 q656207 = .inr (1, [.null, .int 0, .int p656208, .int p656209])) (bp656208 : gB p656208 0 1) (bp656209 : gB p656209 0 16777216) : CtA (gV D I) l yJ4_init_da8c8 cJ4_init_da8c8 1 none 2 33 1 16 [.ref q656207] (va_pl P656205 F656206) (pp_656210_StringBuilder_init D I P656205 F656206 q656207 p656208 p656209) gNA := by
  refine CtA_ofF hl0 (by decide +kernel) (Nat.le_of_ble_eq_true rfl) ?_
  refine G_aload_n 0 dr_cJ4_init_da8c8_0 rfl ?_
  refine G_bipush 16 dr_cJ4_init_da8c8_1 (by decide +kernel) ?_
  refine Gw_callI (As := [.int 16]) (gV_ok D I) (cp_656216_AbstractStringBuilder_init l hl0 D I P656205 F656206 q656207 p656208 p656209 hmq656207 heq656207 bp656208 bp656209) dr_cJ4_init_da8c8_3 ⟨wr_7_48, wr_1_19, wr_7_50, by decide, rfl, (Nat.le_of_ble_eq_true rfl), (Nat.le_of_ble_eq_true rfl)⟩ wr_7_49 rfl (show 0 + 1 ≤ 1 by first | omega | decide) (show 0 + 16 ≤ 16 by first | omega | decide) (Nat.le_of_ble_eq_true rfl) (fun r656249 w656250 dc656246 ds656247 hp656248 => ?_)
  obtain ⟨P656252, F656253, q656251, rfl, rfl, hsb656254, hfr656255, he656256, he656257, hm656258, hq656259, hdc, hds⟩ := hp656248
  have hm656260 : q656207 ∈ P656252 := hsb656254 q656207 hmq656207
  have hq656261 : q656251 ∉ P656205 := fun z => hq656259 ((rSub_rf (P := P656205)) q656251 z)
  have hsb656262 : rSub P656205 P656252 := rSub_tr (rSub_rf (P := P656205)) hsb656254
  have hfr656263 : rFr [q656207] P656205 F656206 F656253 := rFr_call (rSub_rf (P := P656205)) (rFr_rf (W := []) (P := P656205) (F := F656206)) hfr656255 (fun b hb hn => ⟨nm_n, (nm_c (fun e => hn (e ▸ List.mem_cons_self)) nm_n)⟩)
  change G _ _ _ _ _ _ _ _ _ _ _
  refine G_widen (cs' := 1) (sl' := 16) (by omega) (by omega) ?_
  exact G_vretA dr_cJ4_init_da8c8_6 rfl (Nat.le_of_ble_eq_true rfl) (Nat.le_of_ble_eq_true rfl) ⟨P656252, F656253, q656251, rfl, rfl, hsb656262, hfr656263, he656256, he656257, hm656258, hq656261, (Nat.le_of_ble_eq_true rfl), (Nat.le_of_ble_eq_true rfl)⟩
abbrev ky_656323_String_coder : gKey := (cJ0_coder_7d493, 1, "java/lang/String", (some FieldType.byte), [], "coder", fun _ _ => True)
def pp_656323_String_coder (D : va_G) (I : FieldType → ClassId) (P656314 : List Nat) (F656315 : Nat → va_E) (q656316 : Nat) (q656317 : Nat) (p656318 : Int32) (p656319 : Int32) (f656320 : Nat → Int32) (n656321 : Nat) : Option Value → va_W → Nat → Nat → Prop := fun r w dc ds => r = some (.int 0) ∧ w = va_pl P656314 F656315 ∧ dc ≤ 0 ∧ ds ≤ 0
set_option maxRecDepth 100000 in
set_option maxHeartbeats 4000000 in
theorem cp_656323_String_coder (l : Launch) (hl0 : l.stackTraces = false) (D : va_G) (I : FieldType → ClassId) (P656314 : List Nat) (F656315 : Nat → va_E) (q656316 : Nat) (q656317 : Nat) (p656318 : Int32) (p656319 : Int32) (f656320 : Nat → Int32) (n656321 : Nat) (hmq656316 : q656316 ∈ P656314) (hmq656317 : q656317 ∈ P656314) (heq656316 : F656315 q656316 = .inr (0, [.ref q656317, .int 0, .int p656318, .int p656319])) (heq656317 : F656315 q656317 = .inl (I .byte, n656321, .inl f656320)) (bp656319 : gB p656319 0 1) (bf656320 : gF f656320 (-128) 127) (x656322 : ((n656321 : Int) ≤ 16777216)) : CtA (gV D I) l yJ0_coder_7d493 cJ0_coder_7d493 1 (some FieldType.byte) 0 0 0 0 [.ref q656316] (va_pl P656314 F656315) (pp_656323_String_coder D I P656314 F656315 q656316 q656317 p656318 p656319 f656320 n656321) gNA := by
  refine CtA_ofF hl0 (by decide +kernel) (Nat.le_of_ble_eq_true rfl) ?_
  have bp656318 := gB_any p656318
  refine G_gets dr_cJ0_coder_7d493_0 wr_3_65 gz_cs (fun x hx => ?_)
  subst hx
  refine G_if_eq 13 dr_cJ0_coder_7d493_3 (by decide +kernel) (fun hc => absurd hc (by decide)) (fun _ => ?_)
  refine G_aload_n 0 dr_cJ0_coder_7d493_6 rfl ?_
  refine Gp_get 1 hmq656316 heq656316 dr_cJ0_coder_7d493_7 (gk_J0 D I) (Nat.le_of_ble_eq_true rfl) wr_8_183 rfl ?_
  refine G_goto 14 dr_cJ0_coder_7d493_10 (by decide +kernel) ?_
  exact G_zretA FieldType.byte dr_cJ0_coder_7d493_14 rfl rfl (Nat.le_of_ble_eq_true rfl) (Nat.le_of_ble_eq_true rfl) ⟨rfl, rfl, (Nat.le_of_ble_eq_true rfl), (Nat.le_of_ble_eq_true rfl)⟩
/- tr_RString_length: result -/
def tr_RString_length (a0_value_n : Nat) (o1 : Int32) : Prop := ∀ R : (Int32) → Prop,
  (∀ (x1 : Int32) (x2 : Int32), x1.toInt = (a0_value_n : Nat) → x2.toInt = x1.toInt / 1 → R x2) →
  R o1
abbrev ky_656312_String_length : gKey := (cJ0_length_8abf5, 1, "java/lang/String", (some FieldType.int), [], "length", fun _ _ => True)
def pp_656312_String_length (D : va_G) (I : FieldType → ClassId) (P656303 : List Nat) (F656304 : Nat → va_E) (q656305 : Nat) (q656306 : Nat) (p656307 : Int32) (p656308 : Int32) (f656309 : Nat → Int32) (n656310 : Nat) : Option Value → va_W → Nat → Nat → Prop := fun r w dc ds => ∃ (o656330 : Int32), r = some (.int o656330) ∧ w = va_pl P656303 F656304 ∧ dc ≤ 0 ∧ ds ≤ 0 ∧ gB o656330 0 16777216 ∧ o656330.toInt = (n656310 : Int) ∧ tr_RString_length n656310 o656330
set_option maxRecDepth 100000 in
set_option maxHeartbeats 4000000 in
theorem cp_656312_String_length (l : Launch) (hl0 : l.stackTraces = false) (D : va_G) (I : FieldType → ClassId) (P656303 : List Nat) (F656304 : Nat → va_E) (q656305 : Nat) (q656306 : Nat) (p656307 : Int32) (p656308 : Int32) (f656309 : Nat → Int32) (n656310 : Nat) (hmq656305 : q656305 ∈ P656303) (hmq656306 : q656306 ∈ P656303) (heq656305 : F656304 q656305 = .inr (0, [.ref q656306, .int 0, .int p656307, .int p656308])) (heq656306 : F656304 q656306 = .inl (I .byte, n656310, .inl f656309)) (bp656308 : gB p656308 0 1) (bf656309 : gF f656309 (-128) 127) (x656311 : ((n656310 : Int) ≤ 16777216)) : CtA (gV D I) l yJ0_length_8abf5 cJ0_length_8abf5 1 (some FieldType.int) 1 20 0 0 [.ref q656305] (va_pl P656303 F656304) (pp_656312_String_length D I P656303 F656304 q656305 q656306 p656307 p656308 f656309 n656310) gNA := by
  refine CtA_ofF hl0 (by decide +kernel) (Nat.le_of_ble_eq_true rfl) ?_
  have bp656307 := gB_any p656307
  refine G_aload_n 0 dr_cJ0_length_8abf5_0 rfl ?_
  refine Gp_get 0 hmq656305 heq656305 dr_cJ0_length_8abf5_1 (gk_J0 D I) (Nat.le_of_ble_eq_true rfl) wr_8_182 rfl ?_
  refine Gp_alen (Int32.ofNat n656310) 1 hmq656306 heq656306 dr_cJ0_length_8abf5_4 rfl rfl (G_nam fun z656313 hz656313 => ?_)
  have ez656313 : z656313.toInt = (n656310 : Nat) := gI_ofM hz656313 (by omega)
  have bz656313 : gB z656313 0 16777216 := ⟨by omega, by omega⟩
  refine G_aload_n 0 dr_cJ0_length_8abf5_5 rfl ?_
  refine Gw_callV (As := []) (gV_ok D I) (cp_656323_String_coder l hl0 D I P656303 F656304 q656305 q656306 p656307 p656308 f656309 n656310 hmq656305 hmq656306 heq656305 heq656306 bp656308 bf656309 (by have qa0 : Int32.toInt 0 = 0 := (by decide); omega)) dr_cJ0_length_8abf5_6 ⟨wr_3_61, wr_1_21, wr_3_64, by decide, rfl, (Nat.le_of_ble_eq_true rfl), (Nat.le_of_ble_eq_true rfl)⟩ wr_3_62 wr_3_63 hmq656305 heq656305 rfl (show 0 + 0 ≤ 0 by first | omega | decide) (show 0 + 0 ≤ 0 by first | omega | decide) (Nat.le_of_ble_eq_true rfl) (fun r656327 w656328 dc656324 ds656325 hp656326 => ?_) (fun _ _ _ _ _ z => z.elim)
  obtain ⟨rfl, rfl, hdc, hds⟩ := hp656326
  change G _ _ _ _ _ _ _ (.int 0 :: _) _ _ _
  refine G_widen (cs' := 0) (sl' := 0) (by omega) (by omega) ?_
  refine G_ishr dr_cJ0_length_8abf5_9 (G_nam fun z656329 hz656329 => ?_)
  have ez656329 : z656329.toInt = z656313.toInt / 1 := gI_shr (k := 0) hz656329 (by decide)
  have bz656329 : gB z656329 0 16777216 := ⟨by omega, by omega⟩
  exact G_iretA dr_cJ0_length_8abf5_10 rfl (Nat.le_of_ble_eq_true rfl) (Nat.le_of_ble_eq_true rfl) ⟨z656329, rfl, rfl, (Nat.le_of_ble_eq_true rfl), (Nat.le_of_ble_eq_true rfl), bz656329, (by have qa0 : Int32.toInt 0 = 0 := (by decide); omega), (fun R c1 => c1 z656313 z656329 ez656313 ez656329)⟩
abbrev ky_656381_AbstractStringBuilder_inflateIfNeededFor : gKey := (cJ5_inflateIfNeededFor_a7421, 2, "java/lang/AbstractStringBuilder", none, [], "inflateIfNeededFor", fun _ _ => True)
def pp_656381_AbstractStringBuilder_inflateIfNeededFor (D : va_G) (I : FieldType → ClassId) (P656365 : List Nat) (F656366 : Nat → va_E) (q656367 : Nat) (q656368 : Nat) (q656369 : Nat) (q656370 : Nat) (p656371 : Int32) (p656372 : Int32) (p656373 : Int32) (p656374 : Int32) (f656375 : Nat → Int32) (n656376 : Nat) (f656377 : Nat → Int32) (n656378 : Nat) : Option Value → va_W → Nat → Nat → Prop := fun r w dc ds => r = none ∧ w = va_pl P656365 F656366 ∧ dc ≤ 0 ∧ ds ≤ 0
set_option maxRecDepth 100000 in
set_option maxHeartbeats 4000000 in
theorem cp_656381_AbstractStringBuilder_inflateIfNeededFor (l : Launch) (hl0 : l.stackTraces = false) (D : va_G) (I : FieldType → ClassId) (P656365 : List Nat) (F656366 : Nat → va_E) (q656367 : Nat) (q656368 : Nat) (q656369 : Nat) (q656370 : Nat) (p656371 : Int32) (p656372 : Int32) (p656373 : Int32) (p656374 : Int32) (f656375 : Nat → Int32) (n656376 : Nat) (f656377 : Nat → Int32) (n656378 : Nat) (hmq656367 : q656367 ∈ P656365) (hmq656368 : q656368 ∈ P656365) (hmq656369 : q656369 ∈ P656365) (hmq656370 : q656370 ∈ P656365) (heq656367 : F656366 q656367 = .inr (1, [.ref q656369, .int 0, .int p656371, .int p656372])) (heq656368 : F656366 q656368 = .inr (0, [.ref q656370, .int 0, .int p656373, .int p656374])) (heq656369 : F656366 q656369 = .inl (I .byte, n656376, .inl f656375)) (heq656370 : F656366 q656370 = .inl (I .byte, n656378, .inl f656377)) (hneq656369q656370 : q656369 ≠ q656370) (bp656371 : gB p656371 0 1) (bp656372 : gB p656372 0 16777216) (bp656374 : gB p656374 0 1) (bf656375 : gF f656375 (-128) 127) (bf656377 : gF f656377 (-128) 127) (x656379 : ((n656376 : Int) ≤ 16777216)) (x656380 : ((n656378 : Int) ≤ 16777216)) : CtA (gV D I) l yJ5_inflateIfNeededFor_a7421 cJ5_inflateIfNeededFor_a7421 2 none 1 20 0 0 [.ref q656367, .ref q656368] (va_pl P656365 F656366) (pp_656381_AbstractStringBuilder_inflateIfNeededFor D I P656365 F656366 q656367 q656368 q656369 q656370 p656371 p656372 p656373 p656374 f656375 n656376 f656377 n656378) gNA := by
  refine CtA_ofF hl0 (by decide +kernel) (Nat.le_of_ble_eq_true rfl) ?_
  have bp656373 := gB_any p656373
  refine G_gets dr_cJ5_inflateIfNeededFor_a7421_0 wr_7_52 gz_cs (fun x hx => ?_)
  subst hx
  refine G_if_eq 21 dr_cJ5_inflateIfNeededFor_a7421_3 (by decide +kernel) (fun hc => absurd hc (by decide)) (fun _ => ?_)
  refine G_aload_n 0 dr_cJ5_inflateIfNeededFor_a7421_6 rfl ?_
  refine Gp_get 1 hmq656367 heq656367 dr_cJ5_inflateIfNeededFor_a7421_7 (gk_J4 D I) (Nat.le_of_ble_eq_true rfl) wr_7_61 rfl ?_
  refine G_aload_n 1 dr_cJ5_inflateIfNeededFor_a7421_10 rfl ?_
  refine Gw_callV (As := []) (gV_ok D I) (cp_656323_String_coder l hl0 D I P656365 F656366 q656368 q656370 p656373 p656374 f656377 n656378 hmq656368 hmq656370 heq656368 heq656370 bp656374 bf656377 (by have qa0 : Int32.toInt 0 = 0 := (by decide); omega)) dr_cJ5_inflateIfNeededFor_a7421_11 ⟨wr_8_163, wr_1_21, wr_3_64, by decide, rfl, (Nat.le_of_ble_eq_true rfl), (Nat.le_of_ble_eq_true rfl)⟩ wr_3_62 wr_3_63 hmq656368 heq656368 rfl (show 0 + 0 ≤ 0 by first | omega | decide) (show 0 + 0 ≤ 0 by first | omega | decide) (Nat.le_of_ble_eq_true rfl) (fun r656385 w656386 dc656382 ds656383 hp656384 => ?_) (fun _ _ _ _ _ z => z.elim)
  obtain ⟨rfl, rfl, hdc, hds⟩ := hp656384
  change G _ _ _ _ _ _ _ (.int 0 :: _) _ _ _
  refine G_widen (cs' := 0) (sl' := 0) (by omega) (by omega) ?_
  refine G_icmp_eq 21 dr_cJ5_inflateIfNeededFor_a7421_14 (by decide +kernel) (fun _ => ?_) (fun hc => absurd hc (by decide))
  exact G_vretA dr_cJ5_inflateIfNeededFor_a7421_21 rfl (Nat.le_of_ble_eq_true rfl) (Nat.le_of_ble_eq_true rfl) ⟨rfl, rfl, (Nat.le_of_ble_eq_true rfl), (Nat.le_of_ble_eq_true rfl)⟩
/- tr_RString_getBytes: a.1.[] -/
def tr_RString_getBytes (a2 : Int32) (a1_v : Nat → Int32) (a0_value_v : Nat → Int32) (a0_value_n : Nat) (o1 : Nat → Int32) : Prop := ∀ R : (Nat → Int32) → Prop,
  (∀ (x1 : Int32) (x2 : Int32) (x3 : Nat → Int32), x1.toInt = a2.toInt * 1 → x2.toInt = (a0_value_n : Nat) → x3 = va_cpy a0_value_v a1_v (0 : Int32).toNatClampNeg x1.toNatClampNeg x2.toNatClampNeg → R x3) →
  R o1
abbrev ky_656407_String_getBytes : gKey := (cJ0_getBytes_840e7, 4, "java/lang/String", none, [], "getBytes", fun _ _ => True)
def pp_656407_String_getBytes (D : va_G) (I : FieldType → ClassId) (P656392 : List Nat) (F656393 : Nat → va_E) (q656394 : Nat) (q656395 : Nat) (q656396 : Nat) (p656397 : Int32) (p656398 : Int32) (p656399 : Int32) (f656400 : Nat → Int32) (n656401 : Nat) (f656402 : Nat → Int32) (n656403 : Nat) : Option Value → va_W → Nat → Nat → Prop := fun r w dc ds => ∃ (F656425 : Nat → va_E) (f656423 : Nat → Int32), r = none ∧ w = va_pl P656392 F656425 ∧ rFr [q656395] P656392 F656393 F656425 ∧ F656425 q656394 = .inr (0, [.ref q656396, .int 0, .int p656398, .int p656399]) ∧ F656425 q656395 = .inl (I .byte, n656401, .inl f656423) ∧ F656425 q656396 = .inl (I .byte, n656403, .inl f656402) ∧ dc ≤ 0 ∧ ds ≤ 0 ∧ gF f656423 (-128) 127 ∧ sK f656400 f656423 p656397.toInt ∧ sF f656402 f656423 p656397.toInt (n656403 : Int) ∧ tr_RString_getBytes p656397 f656400 f656402 n656403 f656423
set_option maxRecDepth 100000 in
set_option maxHeartbeats 4000000 in
theorem cp_656407_String_getBytes (l : Launch) (hl0 : l.stackTraces = false) (D : va_G) (I : FieldType → ClassId) (P656392 : List Nat) (F656393 : Nat → va_E) (q656394 : Nat) (q656395 : Nat) (q656396 : Nat) (p656397 : Int32) (p656398 : Int32) (p656399 : Int32) (f656400 : Nat → Int32) (n656401 : Nat) (f656402 : Nat → Int32) (n656403 : Nat) (hmq656394 : q656394 ∈ P656392) (hmq656395 : q656395 ∈ P656392) (hmq656396 : q656396 ∈ P656392) (heq656394 : F656393 q656394 = .inr (0, [.ref q656396, .int 0, .int p656398, .int p656399])) (heq656395 : F656393 q656395 = .inl (I .byte, n656401, .inl f656400)) (heq656396 : F656393 q656396 = .inl (I .byte, n656403, .inl f656402)) (hneq656395q656396 : q656395 ≠ q656396) (bp656397 : gB p656397 0 16777216) (bp656399 : gB p656399 0 1) (bf656400 : gF f656400 (-128) 127) (bf656402 : gF f656402 (-128) 127) (x656404 : p656397.toInt + (n656403 : Int) ≤ (n656401 : Int)) (x656405 : ((n656401 : Int) ≤ 16777216)) (x656406 : ((n656403 : Int) ≤ 16777216)) : CtA (gV D I) l yJ0_getBytes_840e7 cJ0_getBytes_840e7 4 none 1 20 0 0 [.ref q656394, .ref q656395, .int p656397, .int 0] (va_pl P656392 F656393) (pp_656407_String_getBytes D I P656392 F656393 q656394 q656395 q656396 p656397 p656398 p656399 f656400 n656401 f656402 n656403) gNA := by
  refine CtA_ofF hl0 (by decide +kernel) (Nat.le_of_ble_eq_true rfl) ?_
  have bp656398 := gB_any p656398
  refine G_aload_n 0 dr_cJ0_getBytes_840e7_0 rfl ?_
  refine Gw_callV (As := []) (gV_ok D I) (cp_656323_String_coder l hl0 D I P656392 F656393 q656394 q656396 p656398 p656399 f656402 n656403 hmq656394 hmq656396 heq656394 heq656396 bp656399 bf656402 (by have qa0 : Int32.toInt 0 = 0 := (by decide); omega)) dr_cJ0_getBytes_840e7_1 ⟨wr_3_61, wr_1_21, wr_3_64, by decide, rfl, (Nat.le_of_ble_eq_true rfl), (Nat.le_of_ble_eq_true rfl)⟩ wr_3_62 wr_3_63 hmq656394 heq656394 rfl (show 0 + 0 ≤ 0 by first | omega | decide) (show 0 + 0 ≤ 0 by first | omega | decide) (Nat.le_of_ble_eq_true rfl) (fun r656411 w656412 dc656408 ds656409 hp656410 => ?_) (fun _ _ _ _ _ z => z.elim)
  obtain ⟨rfl, rfl, hdc, hds⟩ := hp656410
  change G _ _ _ _ _ _ _ (.int 0 :: _) _ _ _
  refine G_widen (cs' := 0) (sl' := 0) (by omega) (by omega) ?_
  refine G_iload_n 3 dr_cJ0_getBytes_840e7_4 rfl ?_
  refine G_icmp_ne 28 dr_cJ0_getBytes_840e7_5 (by decide +kernel) (fun hc => absurd hc (by decide)) (fun _ => ?_)
  refine G_aload_n 0 dr_cJ0_getBytes_840e7_8 rfl ?_
  refine Gp_get 0 hmq656394 heq656394 dr_cJ0_getBytes_840e7_9 (gk_J0 D I) (Nat.le_of_ble_eq_true rfl) wr_8_182 rfl ?_
  refine G_iconst 0 dr_cJ0_getBytes_840e7_12 (by decide +kernel) ?_
  refine G_aload_n 1 dr_cJ0_getBytes_840e7_13 rfl ?_
  refine G_iload_n 2 dr_cJ0_getBytes_840e7_14 rfl ?_
  refine G_iload_n 3 dr_cJ0_getBytes_840e7_15 rfl ?_
  refine G_ishl dr_cJ0_getBytes_840e7_16 (G_nam fun z656413 hz656413 => ?_)
  have ez656413 : z656413.toInt = p656397.toInt * 1 := gI_shl (k := 0) hz656413 (by decide) bp656397 (by decide) (by decide)
  have bz656413 : gB z656413 0 16777216 := ⟨by omega, by omega⟩
  refine G_aload_n 0 dr_cJ0_getBytes_840e7_17 rfl ?_
  refine Gp_get 0 hmq656394 heq656394 dr_cJ0_getBytes_840e7_18 (gk_J0 D I) (Nat.le_of_ble_eq_true rfl) wr_8_182 rfl ?_
  refine Gp_alen (Int32.ofNat n656403) 1 hmq656396 heq656396 dr_cJ0_getBytes_840e7_21 rfl rfl (G_nam fun z656414 hz656414 => ?_)
  have ez656414 : z656414.toInt = (n656403 : Nat) := gI_ofM hz656414 (by omega)
  have bz656414 : gB z656414 0 16777216 := ⟨by omega, by omega⟩
  refine Gp_copyp 1 hmq656396 hmq656395 heq656396 heq656395 dr_cJ0_getBytes_840e7_22 wr_8_168 wr_5_113 wr_5_112 wr_1_34 rfl rfl (fun j => gT_byte (bf656402 j)) (by decide) (by omega) (by omega) (by have qa0 : Int32.toInt 0 = 0 := (by decide); omega) (by have qa0 : Int32.toInt 0 = 0 := (by decide); omega) (Nat.le_of_ble_eq_true rfl) (Nat.le_of_ble_eq_true rfl) (fun F656415 e656416 n656417 => ?_)
  obtain ⟨f656418, hf656418⟩ : ∃ z, z = va_cpy f656402 f656400 (0 : Int32).toNatClampNeg z656413.toNatClampNeg z656414.toNatClampNeg := ⟨_, rfl⟩
  rw [← hf656418] at e656416
  have bf656418 : gF f656418 (-128) 127 := gF_cpy hf656418 bf656402 bf656400
  have he656419 : F656415 q656394 = .inr (0, [.ref q656396, .int 0, .int p656398, .int p656399]) := (n656417 q656394 (rn_oa heq656394 heq656395)).trans heq656394
  have he656420 : F656415 q656396 = .inl (I .byte, n656403, .inl f656402) := (n656417 q656396 (Ne.symm hneq656395q656396)).trans heq656396
  have he656421 : F656415 q656395 = .inl (I .byte, n656401, .inl f656418) := e656416
  have hfr656422 : rFr [q656395] P656392 F656393 F656415 := rFr_put (rFr_rf (W := []) (P := P656392) (F := F656393)) n656417
  refine G_goto 43 dr_cJ0_getBytes_840e7_25 (by decide +kernel) ?_
  exact G_vretA dr_cJ0_getBytes_840e7_43 rfl (Nat.le_of_ble_eq_true rfl) (Nat.le_of_ble_eq_true rfl) ⟨F656415, f656418, rfl, rfl, hfr656422, he656419, he656421, he656420, (Nat.le_of_ble_eq_true rfl), (Nat.le_of_ble_eq_true rfl), bf656418, (sK_cpy hf656418 (by omega)), (sF_cpy hf656418 (by decide) (by omega) (by omega)), (fun R c1 => c1 z656413 z656414 f656418 ez656413 ez656414 hf656418)⟩
/- tr_RAbstractStringBuilder_putStringAt: a.0.value.[] -/
def tr_RAbstractStringBuilder_putStringAt (a1 : Int32) (a0_value_v : Nat → Int32) (a2_value_v : Nat → Int32) (a2_value_n : Nat) (o1 : Nat → Int32) : Prop := ∀ R : (Nat → Int32) → Prop,
  (∀ (x1 : Nat → Int32), tr_RString_getBytes a1 a0_value_v a2_value_v a2_value_n x1 → R x1) →
  R o1
abbrev ky_656364_AbstractStringBuilder_putStringAt : gKey := (cJ5_putStringAt_47b60, 3, "java/lang/AbstractStringBuilder", none, [], "putStringAt", fun _ _ => True)
def pp_656364_AbstractStringBuilder_putStringAt (D : va_G) (I : FieldType → ClassId) (P656346 : List Nat) (F656347 : Nat → va_E) (q656348 : Nat) (q656349 : Nat) (q656350 : Nat) (q656351 : Nat) (p656352 : Int32) (p656353 : Int32) (p656354 : Int32) (p656355 : Int32) (p656356 : Int32) (f656357 : Nat → Int32) (n656358 : Nat) (f656359 : Nat → Int32) (n656360 : Nat) : Option Value → va_W → Nat → Nat → Prop := fun r w dc ds => ∃ (F656445 : Nat → va_E) (f656443 : Nat → Int32), r = none ∧ w = va_pl P656346 F656445 ∧ rFr [q656350] P656346 F656347 F656445 ∧ F656445 q656348 = .inr (1, [.ref q656350, .int 0, .int p656353, .int p656354]) ∧ F656445 q656349 = .inr (0, [.ref q656351, .int 0, .int p656355, .int p656356]) ∧ F656445 q656350 = .inl (I .byte, n656358, .inl f656443) ∧ F656445 q656351 = .inl (I .byte, n656360, .inl f656359) ∧ dc ≤ 0 ∧ ds ≤ 0 ∧ gF f656443 (-128) 127 ∧ sK f656357 f656443 p656352.toInt ∧ sF f656359 f656443 p656352.toInt (n656360 : Int) ∧ tr_RAbstractStringBuilder_putStringAt p656352 f656357 f656359 n656360 f656443
set_option maxRecDepth 100000 in
set_option maxHeartbeats 4000000 in
theorem cp_656364_AbstractStringBuilder_putStringAt (l : Launch) (hl0 : l.stackTraces = false) (D : va_G) (I : FieldType → ClassId) (P656346 : List Nat) (F656347 : Nat → va_E) (q656348 : Nat) (q656349 : Nat) (q656350 : Nat) (q656351 : Nat) (p656352 : Int32) (p656353 : Int32) (p656354 : Int32) (p656355 : Int32) (p656356 : Int32) (f656357 : Nat → Int32) (n656358 : Nat) (f656359 : Nat → Int32) (n656360 : Nat) (hmq656348 : q656348 ∈ P656346) (hmq656349 : q656349 ∈ P656346) (hmq656350 : q656350 ∈ P656346) (hmq656351 : q656351 ∈ P656346) (heq656348 : F656347 q656348 = .inr (1, [.ref q656350, .int 0, .int p656353, .int p656354])) (heq656349 : F656347 q656349 = .inr (0, [.ref q656351, .int 0, .int p656355, .int p656356])) (heq656350 : F656347 q656350 = .inl (I .byte, n656358, .inl f656357)) (heq656351 : F656347 q656351 = .inl (I .byte, n656360, .inl f656359)) (hneq656350q656351 : q656350 ≠ q656351) (bp656352 : gB p656352 0 16777216) (bp656353 : gB p656353 0 1) (bp656354 : gB p656354 0 16777216) (bp656356 : gB p656356 0 1) (bf656357 : gF f656357 (-128) 127) (bf656359 : gF f656359 (-128) 127) (x656361 : p656352.toInt + (n656360 : Int) ≤ (n656358 : Int)) (x656362 : ((n656358 : Int) ≤ 16777216)) (x656363 : ((n656360 : Int) ≤ 16777216)) : CtA (gV D I) l yJ5_putStringAt_47b60 cJ5_putStringAt_47b60 3 none 2 43 0 0 [.ref q656348, .int p656352, .ref q656349] (va_pl P656346 F656347) (pp_656364_AbstractStringBuilder_putStringAt D I P656346 F656347 q656348 q656349 q656350 q656351 p656352 p656353 p656354 p656355 p656356 f656357 n656358 f656359 n656360) gNA := by
  refine CtA_ofF hl0 (by decide +kernel) (Nat.le_of_ble_eq_true rfl) ?_
  have bp656355 := gB_any p656355
  refine G_aload_n 0 dr_cJ5_putStringAt_47b60_0 rfl ?_
  refine G_aload_n 2 dr_cJ5_putStringAt_47b60_1 rfl ?_
  refine Gw_callVB (As := [.ref q656349]) (gV_ok D I) (cp_656381_AbstractStringBuilder_inflateIfNeededFor l hl0 D I P656346 F656347 q656348 q656349 q656350 q656351 p656353 p656354 p656355 p656356 f656357 n656358 f656359 n656360 hmq656348 hmq656349 hmq656350 hmq656351 heq656348 heq656349 heq656350 heq656351 hneq656350q656351 bp656353 bp656354 bp656356 bf656357 bf656359 (by have qa0 : Int32.toInt 0 = 0 := (by decide); omega) (by have qa0 : Int32.toInt 0 = 0 := (by decide); omega)) dr_cJ5_putStringAt_47b60_2 ⟨wr_8_159, wr_1_19, wr_8_162, by decide, rfl, (Nat.le_of_ble_eq_true rfl), (Nat.le_of_ble_eq_true rfl)⟩ wr_8_161 wr_s_5 hmq656348 heq656348 rfl (show 0 + 0 ≤ 0 by first | omega | decide) (show 0 + 0 ≤ 0 by first | omega | decide) (Nat.le_of_ble_eq_true rfl) (fun r656390 w656391 dc656387 ds656388 hp656389 => ?_) (fun _ _ _ _ _ z => z.elim)
  obtain ⟨rfl, rfl, hdc, hds⟩ := hp656389
  change G _ _ _ _ _ _ _ _ _ _ _
  refine G_widen (cs' := 0) (sl' := 0) (by omega) (by omega) ?_
  refine G_aload_n 2 dr_cJ5_putStringAt_47b60_5 rfl ?_
  refine G_aload_n 0 dr_cJ5_putStringAt_47b60_6 rfl ?_
  refine Gp_get 0 hmq656348 heq656348 dr_cJ5_putStringAt_47b60_7 (gk_J4 D I) (Nat.le_of_ble_eq_true rfl) wr_7_60 rfl ?_
  refine G_iload_n 1 dr_cJ5_putStringAt_47b60_10 rfl ?_
  refine G_aload_n 0 dr_cJ5_putStringAt_47b60_11 rfl ?_
  refine Gp_get 1 hmq656348 heq656348 dr_cJ5_putStringAt_47b60_12 (gk_J4 D I) (Nat.le_of_ble_eq_true rfl) wr_7_61 rfl ?_
  refine Gw_callV (As := [.ref q656350, .int p656352, .int 0]) (gV_ok D I) (cp_656407_String_getBytes l hl0 D I P656346 F656347 q656349 q656350 q656351 p656352 p656355 p656356 f656357 n656358 f656359 n656360 hmq656349 hmq656350 hmq656351 heq656349 heq656350 heq656351 hneq656350q656351 bp656352 bp656356 bf656357 bf656359 (by have qa0 : Int32.toInt 0 = 0 := (by decide); omega) (by have qa0 : Int32.toInt 0 = 0 := (by decide); omega) (by have qa0 : Int32.toInt 0 = 0 := (by decide); omega)) dr_cJ5_putStringAt_47b60_15 ⟨wr_8_164, wr_1_21, wr_8_167, by decide, rfl, (Nat.le_of_ble_eq_true rfl), (Nat.le_of_ble_eq_true rfl)⟩ wr_8_165 wr_8_166 hmq656349 heq656349 rfl (show 0 + 0 ≤ 0 by first | omega | decide) (show 0 + 0 ≤ 0 by first | omega | decide) (Nat.le_of_ble_eq_true rfl) (fun r656429 w656430 dc656426 ds656427 hp656428 => ?_) (fun _ _ _ _ _ z => z.elim)
  obtain ⟨F656435, f656431, rfl, rfl, hfr656437, he656438, he656439, he656440, hdc, hds, bf656431, x656432, x656433, ht656434⟩ := hp656428
  have he656441 : F656435 q656348 = .inr (1, [.ref q656350, .int 0, .int p656353, .int p656354]) := (hfr656437 q656348 hmq656348 (nm_c (rn_oa heq656348 heq656350) nm_n)).trans heq656348
  have hfr656442 : rFr [q656350] P656346 F656347 F656435 := rFr_call (rSub_rf (P := P656346)) (rFr_rf (W := []) (P := P656346) (F := F656347)) hfr656437 (fun b hb hn => ⟨nm_n, (nm_c (fun e => hn (e ▸ List.mem_cons_self)) nm_n)⟩)
  change G _ _ _ _ _ _ _ _ _ _ _
  refine G_widen (cs' := 0) (sl' := 0) (by omega) (by omega) ?_
  exact G_vretA dr_cJ5_putStringAt_47b60_18 rfl (Nat.le_of_ble_eq_true rfl) (Nat.le_of_ble_eq_true rfl) ⟨F656435, f656431, rfl, rfl, hfr656442, he656441, he656438, he656439, he656440, (Nat.le_of_ble_eq_true rfl), (Nat.le_of_ble_eq_true rfl), bf656431, (sK_c x656432 (by omega)), (by assumption), (fun R c1 => c1 f656431 ht656434)⟩
/- tr_RAbstractStringBuilder_append3: a.0...count, a.0.value.[] -/
def tr_RAbstractStringBuilder_append3 (a0_count : Int32) (a0_value_v : Nat → Int32) (a0_value_n : Nat) (a1_value_v : Nat → Int32) (a1_value_n : Nat) (o1 : Int32) (o2 : Nat → Int32) : Prop := ∀ R : (Int32) → (Nat → Int32) → Prop,
  (∀ (x1 : Int32) (x2 : Int32) (x3 : Nat → Int32) (x4 : Int32), gB x1 0 16777216 → tr_RString_length a1_value_n x1 → x2.toInt = a0_count.toInt + x1.toInt → tr_RAbstractStringBuilder_ensureCapacityInternal x2 a0_value_n → tr_RAbstractStringBuilder_putStringAt a0_count a0_value_v a1_value_v a1_value_n x3 → x4.toInt = a0_count.toInt + x1.toInt → R x4 x3) →
  R o1 o2
abbrev ky_656302_AbstractStringBuilder_append : gKey := (cJ5_append_cf1ce, 3, "java/lang/AbstractStringBuilder", (some (FieldType.object "java/lang/AbstractStringBuilder")), [], "append", fun _ _ => True)
def pp_656302_AbstractStringBuilder_append (D : va_G) (I : FieldType → ClassId) (P656285 : List Nat) (F656286 : Nat → va_E) (q656287 : Nat) (q656288 : Nat) (q656289 : Nat) (q656290 : Nat) (p656291 : Int32) (p656292 : Int32) (p656293 : Int32) (p656294 : Int32) (f656295 : Nat → Int32) (n656296 : Nat) (f656297 : Nat → Int32) (n656298 : Nat) : Option Value → va_W → Nat → Nat → Prop := fun r w dc ds => ∃ (F656475 : Nat → va_E) (o656472 : Int32) (f656473 : Nat → Int32), r = some (.ref q656287) ∧ w = va_pl P656285 F656475 ∧ rFr [q656287, q656289] P656285 F656286 F656475 ∧ F656475 q656287 = .inr (1, [.ref q656289, .int 0, .int p656291, .int o656472]) ∧ F656475 q656288 = .inr (0, [.ref q656290, .int 0, .int p656293, .int p656294]) ∧ F656475 q656289 = .inl (I .byte, n656296, .inl f656473) ∧ F656475 q656290 = .inl (I .byte, n656298, .inl f656297) ∧ dc ≤ 0 ∧ ds ≤ 0 ∧ gB o656472 0 16777216 ∧ gF f656473 (-128) 127 ∧ o656472.toInt = p656292.toInt + (n656298 : Int) ∧ sK f656295 f656473 p656292.toInt ∧ sF f656297 f656473 p656292.toInt (n656298 : Int) ∧ tr_RAbstractStringBuilder_append3 p656292 f656295 n656296 f656297 n656298 o656472 f656473
set_option maxRecDepth 100000 in
set_option maxHeartbeats 4000000 in
theorem cp_656302_AbstractStringBuilder_append (l : Launch) (hl0 : l.stackTraces = false) (D : va_G) (I : FieldType → ClassId) (P656285 : List Nat) (F656286 : Nat → va_E) (q656287 : Nat) (q656288 : Nat) (q656289 : Nat) (q656290 : Nat) (p656291 : Int32) (p656292 : Int32) (p656293 : Int32) (p656294 : Int32) (f656295 : Nat → Int32) (n656296 : Nat) (f656297 : Nat → Int32) (n656298 : Nat) (hmq656287 : q656287 ∈ P656285) (hmq656288 : q656288 ∈ P656285) (hmq656289 : q656289 ∈ P656285) (hmq656290 : q656290 ∈ P656285) (heq656287 : F656286 q656287 = .inr (1, [.ref q656289, .int 0, .int p656291, .int p656292])) (heq656288 : F656286 q656288 = .inr (0, [.ref q656290, .int 0, .int p656293, .int p656294])) (heq656289 : F656286 q656289 = .inl (I .byte, n656296, .inl f656295)) (heq656290 : F656286 q656290 = .inl (I .byte, n656298, .inl f656297)) (hneq656289q656290 : q656289 ≠ q656290) (bp656291 : gB p656291 0 1) (bp656292 : gB p656292 0 16777216) (bp656294 : gB p656294 0 1) (bf656295 : gF f656295 (-128) 127) (bf656297 : gF f656297 (-128) 127) (x656299 : p656292.toInt + (n656298 : Int) ≤ (n656296 : Int)) (x656300 : ((n656296 : Int) ≤ 16777216)) (x656301 : ((n656298 : Int) ≤ 16777216)) : CtA (gV D I) l yJ5_append_cf1ce cJ5_append_cf1ce 3 (some (FieldType.object "java/lang/AbstractStringBuilder")) 3 65 0 0 [.ref q656287, .ref q656288] (va_pl P656285 F656286) (pp_656302_AbstractStringBuilder_append D I P656285 F656286 q656287 q656288 q656289 q656290 p656291 p656292 p656293 p656294 f656295 n656296 f656297 n656298) gNA := by
  refine CtA_ofF hl0 (by decide +kernel) (Nat.le_of_ble_eq_true rfl) ?_
  have bp656293 := gB_any p656293
  refine G_aload_n 1 dr_cJ5_append_cf1ce_0 rfl ?_
  refine G_ifnonnull 9 dr_cJ5_append_cf1ce_1 (by decide +kernel) ?_
  refine G_aload_n 1 dr_cJ5_append_cf1ce_9 rfl ?_
  refine Gw_callV (As := []) (gV_ok D I) (cp_656312_String_length l hl0 D I P656285 F656286 q656288 q656290 p656293 p656294 f656297 n656298 hmq656288 hmq656290 heq656288 heq656290 bp656294 bf656297 (by have qa0 : Int32.toInt 0 = 0 := (by decide); omega)) dr_cJ5_append_cf1ce_10 ⟨wr_8_154, wr_1_21, wr_3_60, by decide, rfl, (Nat.le_of_ble_eq_true rfl), (Nat.le_of_ble_eq_true rfl)⟩ wr_3_58 wr_3_59 hmq656288 heq656288 rfl (show 0 + 0 ≤ 0 by first | omega | decide) (show 0 + 0 ≤ 0 by first | omega | decide) (Nat.le_of_ble_eq_true rfl) (fun r656334 w656335 dc656331 ds656332 hp656333 => ?_) (fun _ _ _ _ _ z => z.elim)
  obtain ⟨o656336, rfl, rfl, hdc, hds, bo656336, x656337, ht656338⟩ := hp656333
  change G _ _ _ _ _ _ _ (.int o656336 :: _) _ _ _
  refine G_widen (cs' := 0) (sl' := 0) (by omega) (by omega) ?_
  refine G_istore_n (L' := [(2, .int o656336), (0, .ref q656287), (1, .ref q656288)]) dr_cJ5_append_cf1ce_13 (Nat.le_of_ble_eq_true rfl) rfl ?_
  refine G_aload_n 1 dr_cJ5_append_cf1ce_14 rfl ?_
  refine G_aload_n 1 dr_cJ5_append_cf1ce_15 rfl ?_
  refine Gp_get 3 hmq656287 heq656287 dr_cJ5_append_cf1ce_16 (gk_J4 D I) (Nat.le_of_ble_eq_true rfl) wr_7_64 rfl ?_
  refine G_iload_n 0 dr_cJ5_append_cf1ce_19 rfl ?_
  refine G_iadd dr_cJ5_append_cf1ce_20 (G_nam fun z656339 hz656339 => ?_)
  have ez656339 : z656339.toInt = p656292.toInt + o656336.toInt := by rw [gI_add hz656339 bp656292 bo656336 (by decide) (by decide)]
  have bz656339 : gB z656339 0 33554432 := gB_add (gI_add hz656339 bp656292 bo656336 (by decide) (by decide)) bp656292 bo656336 (by decide) (by decide)
  refine Gw_callVB (As := [.int z656339]) (gV_ok D I) (cp_655796_AbstractStringBuilder_ensureCapacityInternal l hl0 D I P656285 F656286 q656287 q656289 z656339 p656291 p656292 f656295 n656296 hmq656287 hmq656289 heq656287 heq656289 ⟨by omega, by omega⟩ bp656291 bp656292 bf656295 (by have qa0 : Int32.toInt 0 = 0 := (by decide); omega) (by have qa0 : Int32.toInt 0 = 0 := (by decide); omega)) dr_cJ5_append_cf1ce_21 ⟨wr_8_4, wr_1_19, wr_8_7, by decide, rfl, (Nat.le_of_ble_eq_true rfl), (Nat.le_of_ble_eq_true rfl)⟩ wr_8_6 wr_s_0 hmq656287 heq656287 rfl (show 0 + 0 ≤ 0 by first | omega | decide) (show 0 + 0 ≤ 0 by first | omega | decide) (Nat.le_of_ble_eq_true rfl) (fun r656343 w656344 dc656340 ds656341 hp656342 => ?_) (fun _ _ _ _ _ z => z.elim)
  obtain ⟨rfl, rfl, hdc, hds, ht656345⟩ := hp656342
  change G _ _ _ _ _ _ _ _ _ _ _
  refine G_widen (cs' := 0) (sl' := 0) (by omega) (by omega) ?_
  refine G_aload_n 1 dr_cJ5_append_cf1ce_24 rfl ?_
  refine G_aload_n 1 dr_cJ5_append_cf1ce_25 rfl ?_
  refine Gp_get 3 hmq656287 heq656287 dr_cJ5_append_cf1ce_26 (gk_J4 D I) (Nat.le_of_ble_eq_true rfl) wr_7_64 rfl ?_
  refine G_aload_n 2 dr_cJ5_append_cf1ce_29 rfl ?_
  refine Gw_callVB (As := [.int p656292, .ref q656288]) (gV_ok D I) (cp_656364_AbstractStringBuilder_putStringAt l hl0 D I P656285 F656286 q656287 q656288 q656289 q656290 p656292 p656291 p656292 p656293 p656294 f656295 n656296 f656297 n656298 hmq656287 hmq656288 hmq656289 hmq656290 heq656287 heq656288 heq656289 heq656290 hneq656289q656290 bp656292 bp656291 bp656292 bp656294 bf656295 bf656297 (by have qa0 : Int32.toInt 0 = 0 := (by decide); omega) (by have qa0 : Int32.toInt 0 = 0 := (by decide); omega) (by have qa0 : Int32.toInt 0 = 0 := (by decide); omega)) dr_cJ5_append_cf1ce_30 ⟨wr_8_155, wr_1_19, wr_8_158, by decide, rfl, (Nat.le_of_ble_eq_true rfl), (Nat.le_of_ble_eq_true rfl)⟩ wr_8_157 wr_s_4 hmq656287 heq656287 rfl (show 0 + 0 ≤ 0 by first | omega | decide) (show 0 + 0 ≤ 0 by first | omega | decide) (Nat.le_of_ble_eq_true rfl) (fun r656449 w656450 dc656446 ds656447 hp656448 => ?_) (fun _ _ _ _ _ z => z.elim)
  obtain ⟨F656455, f656451, rfl, rfl, hfr656457, he656458, he656459, he656460, he656461, hdc, hds, bf656451, x656452, x656453, ht656454⟩ := hp656448
  have hfr656462 : rFr [q656289] P656285 F656286 F656455 := rFr_call (rSub_rf (P := P656285)) (rFr_rf (W := []) (P := P656285) (F := F656286)) hfr656457 (fun b hb hn => ⟨nm_n, (nm_c (fun e => hn (e ▸ List.mem_cons_self)) nm_n)⟩)
  change G _ _ _ _ _ _ _ _ _ _ _
  refine G_widen (cs' := 0) (sl' := 0) (by omega) (by omega) ?_
  refine G_aload_n 1 dr_cJ5_append_cf1ce_33 rfl ?_
  refine G_dup dr_cJ5_append_cf1ce_34 rfl ?_
  refine Gp_get 3 hmq656287 he656458 dr_cJ5_append_cf1ce_35 (gk_J4 D I) (Nat.le_of_ble_eq_true rfl) wr_7_64 rfl ?_
  refine G_iload_n 0 dr_cJ5_append_cf1ce_38 rfl ?_
  refine G_iadd dr_cJ5_append_cf1ce_39 (G_nam fun z656463 hz656463 => ?_)
  have ez656463 : z656463.toInt = p656292.toInt + o656336.toInt := by rw [gI_add hz656463 bp656292 bo656336 (by decide) (by decide)]
  have bz656463 : gB z656463 0 33554432 := gB_add (gI_add hz656463 bp656292 bo656336 (by decide) (by decide)) bp656292 bo656336 (by decide) (by decide)
  refine Gp_put 3 hmq656287 he656458 dr_cJ5_append_cf1ce_40 (gk_J4 D I) (Nat.le_of_ble_eq_true rfl) wr_7_64 rfl rfl rfl (Nat.le_of_ble_eq_true rfl) (fun F656464 e656465 n656466 => ?_)
  have he656467 : F656464 q656288 = .inr (0, [.ref q656290, .int 0, .int p656293, .int p656294]) := (n656466 q656288 (rn_oo he656459 he656458 (by decide))).trans he656459
  have he656468 : F656464 q656289 = .inl (I .byte, n656296, .inl f656451) := (n656466 q656289 (rn_ao he656460 he656458)).trans he656460
  have he656469 : F656464 q656290 = .inl (I .byte, n656298, .inl f656297) := (n656466 q656290 (rn_ao he656461 he656458)).trans he656461
  have he656470 : F656464 q656287 = .inr (1, [.ref q656289, .int 0, .int p656291, .int z656463]) := e656465
  have hfr656471 : rFr [q656287, q656289] P656285 F656286 F656464 := rFr_put hfr656462 n656466
  refine G_aload_n 1 dr_cJ5_append_cf1ce_43 rfl ?_
  exact G_aretA (FieldType.object "java/lang/AbstractStringBuilder") dr_cJ5_append_cf1ce_44 rfl (by first | exact Or.inl ⟨_, rfl⟩ | exact Or.inr ⟨_, rfl⟩) (Or.inr ⟨_, rfl⟩) (Nat.le_of_ble_eq_true rfl) (Nat.le_of_ble_eq_true rfl) ⟨F656464, z656463, f656451, rfl, rfl, hfr656471, he656470, he656467, he656468, he656469, (Nat.le_of_ble_eq_true rfl), (Nat.le_of_ble_eq_true rfl), ⟨by omega, by omega⟩, bf656451, (by have qa0 : Int32.toInt 0 = 0 := (by decide); omega), (sK_c x656452 (by omega)), (by assumption), (fun R c1 => c1 o656336 z656339 f656451 z656463 bo656336 ht656338 ez656339 ht656345 ht656454 ez656463)⟩
/- tr_RStringBuilder_append3: a.0...count, a.0.value.[] -/
def tr_RStringBuilder_append3 (a0_count : Int32) (a0_value_v : Nat → Int32) (a0_value_n : Nat) (a1_value_v : Nat → Int32) (a1_value_n : Nat) (o1 : Int32) (o2 : Nat → Int32) : Prop := ∀ R : (Int32) → (Nat → Int32) → Prop,
  (∀ (x1 : Int32) (x2 : Nat → Int32), gB x1 0 16777216 → tr_RAbstractStringBuilder_append3 a0_count a0_value_v a0_value_n a1_value_v a1_value_n x1 x2 → R x1 x2) →
  R o1 o2
