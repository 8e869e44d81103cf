theorem dr_cJ5_setLength_d00df_0 : decode cJ5_setLength_d00df 0 = .ok (.iload_n 1, 1) := by decide +kernel
theorem dr_cJ5_setLength_d00df_1 : decode cJ5_setLength_d00df 1 = .ok (.ifCond .ge 12, 3) := by decide +kernel
theorem dr_cJ5_setLength_d00df_13 : decode cJ5_setLength_d00df 13 = .ok (.aload_n 0, 1) := by decide +kernel
theorem dr_cJ5_setLength_d00df_14 : decode cJ5_setLength_d00df 14 = .ok (.iload_n 1, 1) := by decide +kernel
theorem dr_cJ5_setLength_d00df_15 : decode cJ5_setLength_d00df 15 = .ok (.invokevirtual 100, 3) := by decide +kernel
theorem dr_cJ5_setLength_d00df_18 : decode cJ5_setLength_d00df 18 = .ok (.aload_n 0, 1) := by decide +kernel
theorem dr_cJ5_setLength_d00df_19 : decode cJ5_setLength_d00df 19 = .ok (.getfield 79, 3) := by decide +kernel
theorem dr_cJ5_setLength_d00df_22 : decode cJ5_setLength_d00df 22 = .ok (.iload_n 1, 1) := by decide +kernel
theorem dr_cJ5_setLength_d00df_23 : decode cJ5_setLength_d00df 23 = .ok (.if_icmp .ge 40, 3) := by decide +kernel
theorem dr_cJ5_setLength_d00df_63 : decode cJ5_setLength_d00df 63 = .ok (.aload_n 0, 1) := by decide +kernel
theorem dr_cJ5_setLength_d00df_64 : decode cJ5_setLength_d00df 64 = .ok (.getfield 79, 3) := by decide +kernel
theorem dr_cJ5_setLength_d00df_67 : decode cJ5_setLength_d00df 67 = .ok (.iload_n 1, 1) := by decide +kernel
theorem dr_cJ5_setLength_d00df_68 : decode cJ5_setLength_d00df 68 = .ok (.if_icmp .le 8, 3) := by decide +kernel
theorem dr_cJ5_setLength_d00df_76 : decode cJ5_setLength_d00df 76 = .ok (.aload_n 0, 1) := by decide +kernel
theorem dr_cJ5_setLength_d00df_77 : decode cJ5_setLength_d00df 77 = .ok (.iload_n 1, 1) := by decide +kernel
theorem dr_cJ5_setLength_d00df_78 : decode cJ5_setLength_d00df 78 = .ok (.putfield 79, 3) := by decide +kernel
theorem dr_cJ5_setLength_d00df_81 : decode cJ5_setLength_d00df 81 = .ok (.return_, 1) := by decide +kernel
theorem dr_cJ5_setLength_d00df_71 : decode cJ5_setLength_d00df 71 = .ok (.aload_n 0, 1) := by decide +kernel
theorem dr_cJ5_setLength_d00df_72 : decode cJ5_setLength_d00df 72 = .ok (.iconst 1, 1) := by decide +kernel
theorem dr_cJ5_setLength_d00df_73 : decode cJ5_setLength_d00df 73 = .ok (.putfield 73, 3) := by decide +kernel
theorem wr_7_62 : (Jvm.Cond.fieldLink "java/lang/AbstractStringBuilder" (73 : Nat) "java/lang/AbstractStringBuilder" "maybeLatin1" "Z") ∈ gw := gw_7 62 rfl rfl
theorem dr_cJ4_setLength_d00df_0 : decode cJ4_setLength_d00df 0 = .ok (.aload_n 0, 1) := by decide +kernel
theorem dr_cJ4_setLength_d00df_1 : decode cJ4_setLength_d00df 1 = .ok (.iload_n 1, 1) := by decide +kernel
theorem dr_cJ4_setLength_d00df_2 : decode cJ4_setLength_d00df 2 = .ok (.invokespecial 333, 3) := by decide +kernel
theorem wr_11_129 : (Jvm.Cond.methodLink "java/lang/StringBuilder" (333 : Nat) ({ cls := "java/lang/AbstractStringBuilder", name := "setLength", desc := "(I)V" } : Jvm.MethodName)) ∈ gw := gw_11 129 rfl rfl
theorem wr_11_131 : (Jvm.Cond.code ({ cls := "java/lang/AbstractStringBuilder", name := "setLength", desc := "(I)V" } : Jvm.MethodName) prog_21_method_13_code (2 : Nat) (Option.none : Option Jvm.ClassFile.FieldType)) ∈ gw := gw_11 131 rfl rfl
theorem wr_11_130 : (Jvm.Cond.instanceMethod ({ cls := "java/lang/AbstractStringBuilder", name := "setLength", desc := "(I)V" } : Jvm.MethodName)) ∈ gw := gw_11 130 rfl rfl
theorem wr_11_233 : (Jvm.Cond.sameMethod "java/lang/AbstractStringBuilder" "java/lang/AbstractStringBuilder" "setLength" "(I)V") ∈ gw := gw_11 233 rfl rfl
theorem dr_cJ4_setLength_d00df_5 : decode cJ4_setLength_d00df 5 = .ok (.return_, 1) := by decide +kernel
theorem dr_cJ5_init_d00df_0 : decode cJ5_init_d00df 0 = .ok (.aload_n 0, 1) := by decide +kernel
theorem dr_cJ5_init_d00df_1 : decode cJ5_init_d00df 1 = .ok (.invokespecial 3, 3) := by decide +kernel
theorem wr_7_51 : (Jvm.Cond.methodLink "java/lang/AbstractStringBuilder" (3 : Nat) ({ cls := "java/lang/Object", name := "<init>", desc := "()V" } : Jvm.MethodName)) ∈ gw := gw_7 51 rfl rfl
theorem dr_cJ5_init_d00df_4 : decode cJ5_init_d00df 4 = .ok (.getstatic 18, 3) := by decide +kernel
theorem dr_cJ5_init_d00df_7 : decode cJ5_init_d00df 7 = .ok (.ifCond .eq 18, 3) := by decide +kernel
theorem dr_cJ5_init_d00df_10 : decode cJ5_init_d00df 10 = .ok (.aload_n 0, 1) := by decide +kernel
theorem dr_cJ5_init_d00df_11 : decode cJ5_init_d00df 11 = .ok (.iload_n 1, 1) := by decide +kernel
theorem dr_cJ5_init_d00df_12 : decode cJ5_init_d00df 12 = .ok (.newarray .byte, 2) := by decide +kernel
theorem dr_cJ5_init_d00df_14 : decode cJ5_init_d00df 14 = .ok (.putfield 15, 3) := by decide +kernel
theorem dr_cJ5_init_d00df_17 : decode cJ5_init_d00df 17 = .ok (.aload_n 0, 1) := by decide +kernel
theorem dr_cJ5_init_d00df_18 : decode cJ5_init_d00df 18 = .ok (.iconst 0, 1) := by decide +kernel
theorem dr_cJ5_init_d00df_19 : decode cJ5_init_d00df 19 = .ok (.putfield 22, 3) := by decide +kernel
theorem dr_cJ5_init_d00df_22 : decode cJ5_init_d00df 22 = .ok (.goto 16, 3) := by decide +kernel
theorem dr_cJ5_init_d00df_38 : decode cJ5_init_d00df 38 = .ok (.return_, 1) := by decide +kernel
theorem dr_cJ4_init_da8c8_0 : decode cJ4_init_da8c8 0 = .ok (.aload_n 0, 1) := by decide +kernel
theorem dr_cJ4_init_da8c8_1 : decode cJ4_init_da8c8 1 = .ok (.bipush 16, 2) := by decide +kernel
theorem dr_cJ4_init_da8c8_3 : decode cJ4_init_da8c8 3 = .ok (.invokespecial 1, 3) := by decide +kernel
theorem wr_7_48 : (Jvm.Cond.methodLink "java/lang/StringBuilder" (1 : Nat) ({ cls := "java/lang/AbstractStringBuilder", name := "<init>", desc := "(I)V" } : Jvm.MethodName)) ∈ gw := gw_7 48 rfl rfl
theorem wr_7_50 : (Jvm.Cond.code ({ cls := "java/lang/AbstractStringBuilder", name := "<init>", desc := "(I)V" } : Jvm.MethodName) prog_21_method_2_code (2 : Nat) (Option.none : Option Jvm.ClassFile.FieldType)) ∈ gw := gw_7 50 rfl rfl
theorem wr_7_49 : (Jvm.Cond.instanceMethod ({ cls := "java/lang/AbstractStringBuilder", name := "<init>", desc := "(I)V" } : Jvm.MethodName)) ∈ gw := gw_7 49 rfl rfl
theorem dr_cJ4_init_da8c8_6 : decode cJ4_init_da8c8 6 = .ok (.return_, 1) := by decide +kernel
theorem dr_cJ0_coder_7d493_0 : decode cJ0_coder_7d493 0 = .ok (.getstatic 38, 3) := by decide +kernel
theorem wr_3_65 : (Jvm.Cond.fieldLink "java/lang/String" (38 : Nat) "java/lang/String" "COMPACT_STRINGS" "Z") ∈ gw := gw_3 65 rfl rfl
theorem dr_cJ0_coder_7d493_3 : decode cJ0_coder_7d493 3 = .ok (.ifCond .eq 10, 3) := by decide +kernel
theorem dr_cJ0_coder_7d493_6 : decode cJ0_coder_7d493 6 = .ok (.aload_n 0, 1) := by decide +kernel
theorem dr_cJ0_coder_7d493_7 : decode cJ0_coder_7d493 7 = .ok (.getfield 15, 3) := by decide +kernel
theorem wr_8_183 : (Jvm.Cond.fieldLink "java/lang/String" (15 : Nat) "java/lang/String" "coder" "B") ∈ gw := gw_8 183 rfl rfl
theorem dr_cJ0_coder_7d493_10 : decode cJ0_coder_7d493 10 = .ok (.goto 4, 3) := by decide +kernel
theorem dr_cJ0_coder_7d493_14 : decode cJ0_coder_7d493 14 = .ok (.ireturn, 1) := by decide +kernel
theorem dr_cJ0_length_8abf5_0 : decode cJ0_length_8abf5 0 = .ok (.aload_n 0, 1) := by decide +kernel
theorem dr_cJ0_length_8abf5_1 : decode cJ0_length_8abf5 1 = .ok (.getfield 9, 3) := by decide +kernel
theorem wr_8_182 : (Jvm.Cond.fieldLink "java/lang/String" (9 : Nat) "java/lang/String" "value" "[B") ∈ gw := gw_8 182 rfl rfl
theorem dr_cJ0_length_8abf5_4 : decode cJ0_length_8abf5 4 = .ok (.arraylength, 1) := by decide +kernel
theorem dr_cJ0_length_8abf5_5 : decode cJ0_length_8abf5 5 = .ok (.aload_n 0, 1) := by decide +kernel
theorem dr_cJ0_length_8abf5_6 : decode cJ0_length_8abf5 6 = .ok (.invokevirtual 335, 3) := by decide +kernel
theorem wr_3_61 : (Jvm.Cond.methodLink "java/lang/String" (335 : Nat) ({ cls := "java/lang/String", name := "coder", desc := "()B" } : Jvm.MethodName)) ∈ gw := gw_3 61 rfl rfl
theorem wr_3_64 : (Jvm.Cond.code ({ cls := "java/lang/String", name := "coder", desc := "()B" } : Jvm.MethodName) prog_34_method_152_code (1 : Nat) (Option.some Jvm.ClassFile.FieldType.byte)) ∈ gw := gw_3 64 rfl rfl
theorem wr_3_62 : (Jvm.Cond.instanceMethod ({ cls := "java/lang/String", name := "coder", desc := "()B" } : Jvm.MethodName)) ∈ gw := gw_3 62 rfl rfl
theorem wr_3_63 : (Jvm.Cond.selects "java/lang/String" ({ cls := "java/lang/String", name := "coder", desc := "()B" } : Jvm.MethodName) ({ cls := "java/lang/String", name := "coder", desc := "()B" } : Jvm.MethodName)) ∈ gw := gw_3 63 rfl rfl
theorem dr_cJ0_length_8abf5_9 : decode cJ0_length_8abf5 9 = .ok (.ishr, 1) := by decide +kernel
theorem dr_cJ0_length_8abf5_10 : decode cJ0_length_8abf5 10 = .ok (.ireturn, 1) := by decide +kernel
theorem dr_cJ5_inflateIfNeededFor_a7421_0 : decode cJ5_inflateIfNeededFor_a7421 0 = .ok (.getstatic 18, 3) := by decide +kernel
theorem dr_cJ5_inflateIfNeededFor_a7421_3 : decode cJ5_inflateIfNeededFor_a7421 3 = .ok (.ifCond .eq 18, 3) := by decide +kernel
theorem dr_cJ5_inflateIfNeededFor_a7421_6 : decode cJ5_inflateIfNeededFor_a7421 6 = .ok (.aload_n 0, 1) := by decide +kernel
theorem dr_cJ5_inflateIfNeededFor_a7421_7 : decode cJ5_inflateIfNeededFor_a7421 7 = .ok (.getfield 22, 3) := by decide +kernel
theorem dr_cJ5_inflateIfNeededFor_a7421_10 : decode cJ5_inflateIfNeededFor_a7421 10 = .ok (.aload_n 1, 1) := by decide +kernel
theorem dr_cJ5_inflateIfNeededFor_a7421_11 : decode cJ5_inflateIfNeededFor_a7421 11 = .ok (.invokevirtual 40, 3) := by decide +kernel
theorem wr_8_163 : (Jvm.Cond.methodLink "java/lang/AbstractStringBuilder" (40 : Nat) ({ cls := "java/lang/String", name := "coder", desc := "()B" } : Jvm.MethodName)) ∈ gw := gw_8 163 rfl rfl
theorem dr_cJ5_inflateIfNeededFor_a7421_14 : decode cJ5_inflateIfNeededFor_a7421 14 = .ok (.if_icmp .eq 7, 3) := by decide +kernel
theorem dr_cJ5_inflateIfNeededFor_a7421_21 : decode cJ5_inflateIfNeededFor_a7421 21 = .ok (.return_, 1) := by decide +kernel
theorem dr_cJ0_getBytes_840e7_0 : decode cJ0_getBytes_840e7 0 = .ok (.aload_n 0, 1) := by decide +kernel
theorem dr_cJ0_getBytes_840e7_1 : decode cJ0_getBytes_840e7 1 = .ok (.invokevirtual 335, 3) := by decide +kernel
theorem dr_cJ0_getBytes_840e7_4 : decode cJ0_getBytes_840e7 4 = .ok (.iload_n 3, 1) := by decide +kernel
theorem dr_cJ0_getBytes_840e7_5 : decode cJ0_getBytes_840e7 5 = .ok (.if_icmp .ne 23, 3) := by decide +kernel
theorem dr_cJ0_getBytes_840e7_8 : decode cJ0_getBytes_840e7 8 = .ok (.aload_n 0, 1) := by decide +kernel
theorem dr_cJ0_getBytes_840e7_9 : decode cJ0_getBytes_840e7 9 = .ok (.getfield 9, 3) := by decide +kernel
theorem dr_cJ0_getBytes_840e7_12 : decode cJ0_getBytes_840e7 12 = .ok (.iconst 0, 1) := by decide +kernel
theorem dr_cJ0_getBytes_840e7_13 : decode cJ0_getBytes_840e7 13 = .ok (.aload_n 1, 1) := by decide +kernel
theorem dr_cJ0_getBytes_840e7_14 : decode cJ0_getBytes_840e7 14 = .ok (.iload_n 2, 1) := by decide +kernel
theorem dr_cJ0_getBytes_840e7_15 : decode cJ0_getBytes_840e7 15 = .ok (.iload_n 3, 1) := by decide +kernel
theorem dr_cJ0_getBytes_840e7_16 : decode cJ0_getBytes_840e7 16 = .ok (.ishl, 1) := by decide +kernel
theorem dr_cJ0_getBytes_840e7_17 : decode cJ0_getBytes_840e7 17 = .ok (.aload_n 0, 1) := by decide +kernel
theorem dr_cJ0_getBytes_840e7_18 : decode cJ0_getBytes_840e7 18 = .ok (.getfield 9, 3) := by decide +kernel
theorem dr_cJ0_getBytes_840e7_21 : decode cJ0_getBytes_840e7 21 = .ok (.arraylength, 1) := by decide +kernel
theorem dr_cJ0_getBytes_840e7_22 : decode cJ0_getBytes_840e7 22 = .ok (.invokestatic 212, 3) := by decide +kernel
theorem wr_8_168 : (Jvm.Cond.methodLink "java/lang/String" (212 : Nat) ({ cls := "java/lang/System", name := "arraycopy", desc := "(Ljava/lang/Object;ILjava/lang/Object;II)V" } : Jvm.MethodName)) ∈ gw := gw_8 168 rfl rfl
theorem dr_cJ0_getBytes_840e7_25 : decode cJ0_getBytes_840e7 25 = .ok (.goto 18, 3) := by decide +kernel
theorem dr_cJ0_getBytes_840e7_43 : decode cJ0_getBytes_840e7 43 = .ok (.return_, 1) := by decide +kernel
theorem dr_cJ5_putStringAt_47b60_0 : decode cJ5_putStringAt_47b60 0 = .ok (.aload_n 0, 1) := by decide +kernel
theorem dr_cJ5_putStringAt_47b60_1 : decode cJ5_putStringAt_47b60 1 = .ok (.aload_n 2, 1) := by decide +kernel
theorem dr_cJ5_putStringAt_47b60_2 : decode cJ5_putStringAt_47b60 2 = .ok (.invokevirtual 397, 3) := by decide +kernel
theorem wr_8_159 : (Jvm.Cond.methodLink "java/lang/AbstractStringBuilder" (397 : Nat) ({ cls := "java/lang/AbstractStringBuilder", name := "inflateIfNeededFor", desc := "(Ljava/lang/String;)V" } : Jvm.MethodName)) ∈ gw := gw_8 159 rfl rfl
theorem wr_8_162 : (Jvm.Cond.code ({ cls := "java/lang/AbstractStringBuilder", name := "inflateIfNeededFor", desc := "(Ljava/lang/String;)V" } : Jvm.MethodName) prog_21_method_71_code (2 : Nat) (Option.none : Option Jvm.ClassFile.FieldType)) ∈ gw := gw_8 162 rfl rfl
theorem wr_8_161 : (Jvm.Cond.instanceMethod ({ cls := "java/lang/AbstractStringBuilder", name := "inflateIfNeededFor", desc := "(Ljava/lang/String;)V" } : Jvm.MethodName)) ∈ gw := gw_8 161 rfl rfl
theorem wr_s_5 : Cond.selects "java/lang/StringBuilder" ⟨"java/lang/AbstractStringBuilder", "inflateIfNeededFor", "(Ljava/lang/String;)V"⟩ ⟨"java/lang/AbstractStringBuilder", "inflateIfNeededFor", "(Ljava/lang/String;)V"⟩ ∈ gw := gw_s _ 5 rfl rfl rfl
theorem dr_cJ5_putStringAt_47b60_5 : decode cJ5_putStringAt_47b60 5 = .ok (.aload_n 2, 1) := by decide +kernel
theorem dr_cJ5_putStringAt_47b60_6 : decode cJ5_putStringAt_47b60 6 = .ok (.aload_n 0, 1) := by decide +kernel
theorem dr_cJ5_putStringAt_47b60_7 : decode cJ5_putStringAt_47b60 7 = .ok (.getfield 15, 3) := by decide +kernel
theorem dr_cJ5_putStringAt_47b60_10 : decode cJ5_putStringAt_47b60 10 = .ok (.iload_n 1, 1) := by decide +kernel
theorem dr_cJ5_putStringAt_47b60_11 : decode cJ5_putStringAt_47b60 11 = .ok (.aload_n 0, 1) := by decide +kernel
theorem dr_cJ5_putStringAt_47b60_12 : decode cJ5_putStringAt_47b60 12 = .ok (.getfield 22, 3) := by decide +kernel
theorem dr_cJ5_putStringAt_47b60_15 : decode cJ5_putStringAt_47b60 15 = .ok (.invokevirtual 399, 3) := by decide +kernel
theorem wr_8_164 : (Jvm.Cond.methodLink "java/lang/AbstractStringBuilder" (399 : Nat) ({ cls := "java/lang/String", name := "getBytes", desc := "([BIB)V" } : Jvm.MethodName)) ∈ gw := gw_8 164 rfl rfl
theorem wr_8_167 : (Jvm.Cond.code ({ cls := "java/lang/String", name := "getBytes", desc := "([BIB)V" } : Jvm.MethodName) prog_34_method_147_code (4 : Nat) (Option.none : Option Jvm.ClassFile.FieldType)) ∈ gw := gw_8 167 rfl rfl
theorem wr_8_165 : (Jvm.Cond.instanceMethod ({ cls := "java/lang/String", name := "getBytes", desc := "([BIB)V" } : Jvm.MethodName)) ∈ gw := gw_8 165 rfl rfl
theorem wr_8_166 : (Jvm.Cond.selects "java/lang/String" ({ cls := "java/lang/String", name := "getBytes", desc := "([BIB)V" } : Jvm.MethodName) ({ cls := "java/lang/String", name := "getBytes", desc := "([BIB)V" } : Jvm.MethodName)) ∈ gw := gw_8 166 rfl rfl
theorem dr_cJ5_putStringAt_47b60_18 : decode cJ5_putStringAt_47b60 18 = .ok (.return_, 1) := by decide +kernel
theorem dr_cJ5_append_cf1ce_0 : decode cJ5_append_cf1ce 0 = .ok (.aload_n 1, 1) := by decide +kernel
theorem dr_cJ5_append_cf1ce_1 : decode cJ5_append_cf1ce 1 = .ok (.ifnonnull 8, 3) := by decide +kernel
theorem dr_cJ5_append_cf1ce_9 : decode cJ5_append_cf1ce 9 = .ok (.aload_n 1, 1) := by decide +kernel
theorem dr_cJ5_append_cf1ce_10 : decode cJ5_append_cf1ce 10 = .ok (.invokevirtual 32, 3) := by decide +kernel
theorem wr_8_154 : (Jvm.Cond.methodLink "java/lang/AbstractStringBuilder" (32 : Nat) ({ cls := "java/lang/String", name := "length", desc := "()I" } : Jvm.MethodName)) ∈ gw := gw_8 154 rfl rfl
theorem wr_3_60 : (Jvm.Cond.code ({ cls := "java/lang/String", name := "length", desc := "()I" } : Jvm.MethodName) prog_34_method_54_code (1 : Nat) (Option.some Jvm.ClassFile.FieldType.int)) ∈ gw := gw_3 60 rfl rfl
theorem wr_3_58 : (Jvm.Cond.instanceMethod ({ cls := "java/lang/String", name := "length", desc := "()I" } : Jvm.MethodName)) ∈ gw := gw_3 58 rfl rfl
theorem wr_3_59 : (Jvm.Cond.selects "java/lang/String" ({ cls := "java/lang/String", name := "length", desc := "()I" } : Jvm.MethodName) ({ cls := "java/lang/String", name := "length", desc := "()I" } : Jvm.MethodName)) ∈ gw := gw_3 59 rfl rfl
theorem dr_cJ5_append_cf1ce_13 : decode cJ5_append_cf1ce 13 = .ok (.istore_n 2, 1) := by decide +kernel
theorem dr_cJ5_append_cf1ce_14 : decode cJ5_append_cf1ce 14 = .ok (.aload_n 0, 1) := by decide +kernel
theorem dr_cJ5_append_cf1ce_15 : decode cJ5_append_cf1ce 15 = .ok (.aload_n 0, 1) := by decide +kernel
theorem dr_cJ5_append_cf1ce_16 : decode cJ5_append_cf1ce 16 = .ok (.getfield 79, 3) := by decide +kernel
theorem dr_cJ5_append_cf1ce_19 : decode cJ5_append_cf1ce 19 = .ok (.iload_n 2, 1) := by decide +kernel
theorem dr_cJ5_append_cf1ce_20 : decode cJ5_append_cf1ce 20 = .ok (.iadd, 1) := by decide +kernel
theorem dr_cJ5_append_cf1ce_21 : decode cJ5_append_cf1ce 21 = .ok (.invokevirtual 100, 3) := by decide +kernel
theorem dr_cJ5_append_cf1ce_24 : decode cJ5_append_cf1ce 24 = .ok (.aload_n 0, 1) := by decide +kernel
theorem dr_cJ5_append_cf1ce_25 : decode cJ5_append_cf1ce 25 = .ok (.aload_n 0, 1) := by decide +kernel
theorem dr_cJ5_append_cf1ce_26 : decode cJ5_append_cf1ce 26 = .ok (.getfield 79, 3) := by decide +kernel
theorem dr_cJ5_append_cf1ce_29 : decode cJ5_append_cf1ce 29 = .ok (.aload_n 1, 1) := by decide +kernel
theorem dr_cJ5_append_cf1ce_30 : decode cJ5_append_cf1ce 30 = .ok (.invokevirtual 208, 3) := by decide +kernel
theorem wr_8_155 : (Jvm.Cond.methodLink "java/lang/AbstractStringBuilder" (208 : Nat) ({ cls := "java/lang/AbstractStringBuilder", name := "putStringAt", desc := "(ILjava/lang/String;)V" } : Jvm.MethodName)) ∈ gw := gw_8 155 rfl rfl
theorem wr_8_158 : (Jvm.Cond.code ({ cls := "java/lang/AbstractStringBuilder", name := "putStringAt", desc := "(ILjava/lang/String;)V" } : Jvm.MethodName) prog_21_method_73_code (3 : Nat) (Option.none : Option Jvm.ClassFile.FieldType)) ∈ gw := gw_8 158 rfl rfl
theorem wr_8_157 : (Jvm.Cond.instanceMethod ({ cls := "java/lang/AbstractStringBuilder", name := "putStringAt", desc := "(ILjava/lang/String;)V" } : Jvm.MethodName)) ∈ gw := gw_8 157 rfl rfl
theorem wr_s_4 : Cond.selects "java/lang/StringBuilder" ⟨"java/lang/AbstractStringBuilder", "putStringAt", "(ILjava/lang/String;)V"⟩ ⟨"java/lang/AbstractStringBuilder", "putStringAt", "(ILjava/lang/String;)V"⟩ ∈ gw := gw_s _ 4 rfl rfl rfl
theorem dr_cJ5_append_cf1ce_33 : decode cJ5_append_cf1ce 33 = .ok (.aload_n 0, 1) := by decide +kernel
theorem dr_cJ5_append_cf1ce_34 : decode cJ5_append_cf1ce 34 = .ok (.dup, 1) := by decide +kernel
theorem dr_cJ5_append_cf1ce_35 : decode cJ5_append_cf1ce 35 = .ok (.getfield 79, 3) := by decide +kernel
theorem dr_cJ5_append_cf1ce_38 : decode cJ5_append_cf1ce 38 = .ok (.iload_n 2, 1) := by decide +kernel
theorem dr_cJ5_append_cf1ce_39 : decode cJ5_append_cf1ce 39 = .ok (.iadd, 1) := by decide +kernel
theorem dr_cJ5_append_cf1ce_40 : decode cJ5_append_cf1ce 40 = .ok (.putfield 79, 3) := by decide +kernel
theorem dr_cJ5_append_cf1ce_43 : decode cJ5_append_cf1ce 43 = .ok (.aload_n 0, 1) := by decide +kernel
theorem dr_cJ5_append_cf1ce_44 : decode cJ5_append_cf1ce 44 = .ok (.areturn, 1) := by decide +kernel
abbrev ky_657878_AbstractStringBuilder_append : gKey := (cJ5_append_3fe6f, 2, "java/lang/AbstractStringBuilder", (some (FieldType.object "java/lang/AbstractStringBuilder")), [], "append", fun _ _ => True)
def pp_657878_AbstractStringBuilder_append (D : va_G) (I : FieldType → ClassId) (P657866 : List Nat) (F657867 : Nat → va_E) (q657868 : Nat) (q657869 : Nat) (p657870 : Int32) (p657871 : Int32) (p657872 : Int32) (f657873 : Nat → Int32) (n657874 : Nat) : Option Value → va_W → Nat → Nat → Prop := fun r w dc ds => ∃ (P658074 : List Nat) (F658075 : Nat → va_E) (o658070 : Int32) (q658071 : Nat) (n658072 : Nat) (f658073 : Nat → Int32), r = some (.ref q657868) ∧ w = va_pl P658074 F658075 ∧ rSub P657866 P658074 ∧ rFr [q657869, q657868] P657866 F657867 F658075 ∧ F658075 q657868 = .inr (1, [.ref q658071, .int 0, .int p657871, .int o658070]) ∧ F658075 q658071 = .inl (I .byte, n658072, .inl f658073) ∧ q658071 ∈ P658074 ∧ (q658071 = q657869 ∨ q658071 ∉ P657866) ∧ dc ≤ 1 ∧ ds ≤ 2 * (n658072 - n657874) ∧ gB o658070 1 16777216 ∧ gF f658073 (-128) 127 ∧ o658070.toInt = p657872.toInt + 1 ∧ o658070.toInt ≤ (n658072 : Int) ∧ (n657874 : Int) ≤ (n658072 : Int) ∧ (n658072 : Int) ≤ 2 * (n657874 : Int) + 2 ∧ tr_RAbstractStringBuilder_append2 p657870 p657872 f657873 n657874 o658070 n658072 f658073
set_option maxRecDepth 100000 in
set_option maxHeartbeats 4000000 in
theorem cp_657878_AbstractStringBuilder_append (l : Launch) (hl0 : l.stackTraces = false) (D : va_G) (I : FieldType → ClassId) (P657866 : List Nat) (F657867 : Nat → va_E) (q657868 : Nat) (q657869 : Nat) (p657870 : Int32) (p657871 : Int32) (p657872 : Int32) (f657873 : Nat → Int32) (n657874 : Nat) (hmq657868 : q657868 ∈ P657866) (hmq657869 : q657869 ∈ P657866) (heq657868 : F657867 q657868 = .inr (1, [.ref q657869, .int 0, .int p657871, .int p657872])) (heq657869 : F657867 q657869 = .inl (I .byte, n657874, .inl f657873)) (bp657870 : gB p657870 0 255) (bp657871 : gB p657871 0 1) (bp657872 : gB p657872 0 16777216) (bf657873 : gF f657873 (-128) 127) (x657875 : (n657874 : Int) ≤ 8388608 - 100000) (x657876 : p657872.toInt ≤ (n657874 : Int)) (x657877 : ((n657874 : Int) ≤ 16777216)) : CtA (gV D I) l yJ5_append_3fe6f cJ5_append_3fe6f 2 (some (FieldType.object "java/lang/AbstractStringBuilder")) 4 84 1 (4 * n657874 + 8) [.ref q657868, .int p657870] (va_pl P657866 F657867) (pp_657878_AbstractStringBuilder_append D I P657866 F657867 q657868 q657869 p657870 p657871 p657872 f657873 n657874) gNA := by
  refine CtA_ofF hl0 (by decide +kernel) (Nat.le_of_ble_eq_true rfl) ?_
  refine G_aload_n 0 dr_cJ5_append_3fe6f_0 rfl ?_
  refine G_aload_n 0 dr_cJ5_append_3fe6f_1 rfl ?_
  refine Gp_get 3 hmq657868 heq657868 dr_cJ5_append_3fe6f_2 (gk_J4 D I) (Nat.le_of_ble_eq_true rfl) wr_7_64 rfl ?_
  refine G_iconst 1 dr_cJ5_append_3fe6f_5 (by decide +kernel) ?_
  refine G_iadd dr_cJ5_append_3fe6f_6 (G_nam fun z657879 hz657879 => ?_)
  have ez657879 : z657879.toInt = p657872.toInt + 1 := by rw [gI_add hz657879 bp657872 (gBl (show Int32.toInt 1 = 1 by decide)) (by decide) (by decide), show Int32.toInt 1 = 1 from by decide]
  have bz657879 : gB z657879 1 16777217 := gB_add (gI_add hz657879 bp657872 (gBl (show Int32.toInt 1 = 1 by decide)) (by decide) (by decide)) bp657872 (gBl (show Int32.toInt 1 = 1 by decide)) (by decide) (by decide)
  refine Gw_callVB (As := [.int z657879]) (gV_ok D I) (cp_657891_AbstractStringBuilder_ensureCapacityInternal l hl0 D I P657866 F657867 q657868 q657869 z657879 p657871 p657872 f657873 n657874 hmq657868 hmq657869 heq657868 heq657869 ⟨by omega, by omega⟩ bp657871 bp657872 bf657873 (by have qa0 : Int32.toInt 0 = 0 := (by decide); omega) (by have qa0 : Int32.toInt 0 = 0 := (by decide); omega)) dr_cJ5_append_3fe6f_7 ⟨wr_8_4, wr_1_19, wr_8_7, by decide, rfl, (Nat.le_of_ble_eq_true rfl), (Nat.le_of_ble_eq_true rfl)⟩ wr_8_6 wr_s_0 hmq657868 heq657868 rfl (show 0 + 1 ≤ 1 by first | omega | decide) (show 0 + (2 * n657874 + 2 + z657879.toInt.toNat) ≤ (4 * n657874 + 8) by first | omega | decide) (Nat.le_of_ble_eq_true rfl) (fun r658014 w658015 dc658011 ds658012 hp658013 => ?_) (fun _ _ _ _ _ z => z.elim)
  obtain ⟨P658024, F658025, q658016, n658017, f658018, rfl, rfl, hsb658026, hfr658027, he658028, he658029, hm658030, hq658031, hdc, hds, bf658018, x658019, x658020, x658021, x658022, ht658023⟩ := hp658013
  have hm658032 : q657868 ∈ P658024 := hsb658026 q657868 hmq657868
  have hm658033 : q657869 ∈ P658024 := hsb658026 q657869 hmq657869
  have hor658034 : q658016 = q657869 ∨ q658016 ∉ P657866 := hq658031.elim Or.inl (fun n => Or.inr (fun z => n ((rSub_rf (P := P657866)) _ z)))
  have hsb658035 : rSub P657866 P658024 := rSub_tr (rSub_rf (P := P657866)) hsb658026
  have he658036 : F658025 q657869 = .inl (I .byte, n657874, .inl f657873) := (hfr658027 q657869 hmq657869 (nm_c (rn_ao heq657869 heq657868) nm_n)).trans heq657869
  have hfr658037 : rFr [q657868] P657866 F657867 F658025 := rFr_call (rSub_rf (P := P657866)) (rFr_rf (W := []) (P := P657866) (F := F657867)) hfr658027 (fun b hb hn => ⟨nm_n, (nm_c (fun e => hn (e ▸ List.mem_cons_self)) nm_n)⟩)
  change G _ _ _ _ _ _ _ _ _ _ _
  refine G_widen (cs' := 1) (sl' := 2 * (n658017 - n657874)) (by omega) (by omega) ?_
  refine G_aload_n 0 dr_cJ5_append_3fe6f_10 rfl ?_
  refine Gw_callVB (As := []) (gV_ok D I) (cp_657792_AbstractStringBuilder_isLatin1 l hl0 D I P658024 F658025 q657868 q658016 p657871 p657872 f658018 n658017 hm658032 hm658030 he658028 he658029 bp657871 bp657872 bf658018 (by have qa0 : Int32.toInt 0 = 0 := (by decide); omega)) dr_cJ5_append_3fe6f_11 ⟨wr_8_33, wr_1_19, wr_8_37, by decide, rfl, (Nat.le_of_ble_eq_true rfl), (Nat.le_of_ble_eq_true rfl)⟩ wr_8_34 wr_8_36 hm658032 he658028 rfl (show 1 + 0 ≤ 1 by first | omega | decide) (show 2 * (n658017 - n657874) + 0 ≤ (4 * n657874 + 8) by first | omega | decide) (Nat.le_of_ble_eq_true rfl) (fun r658041 w658042 dc658038 ds658039 hp658040 => ?_) (fun _ _ _ _ _ z => z.elim)
  obtain ⟨rfl, rfl, hdc, hds⟩ := hp658040
  change G _ _ _ _ _ _ _ (.int 1 :: _) _ _ _
  refine G_widen (cs' := 1) (sl' := 2 * (n658017 - n657874) + 0) (by omega) (by omega) ?_
  refine G_if_eq 45 dr_cJ5_append_3fe6f_14 (by decide +kernel) (fun hc => absurd hc (by decide)) (fun _ => ?_)
  refine G_iload_n 1 dr_cJ5_append_3fe6f_17 rfl ?_
  refine Gw_callS (As := [.int p657870]) (gV_ok D I) (cp_657801_StringLatin1_canEncode l hl0 D I P658024 F658025 p657870 (gB_w bp657870 (by decide) (by decide))) dr_cJ5_append_3fe6f_18 ⟨wr_8_38, wr_1_28, wr_8_40, by decide, rfl, (Nat.le_of_ble_eq_true rfl), (Nat.le_of_ble_eq_true rfl)⟩ wr_8_39 (show 1 + 0 ≤ 1 by first | omega | decide) (show 2 * (n658017 - n657874) + 0 + 0 ≤ (4 * n657874 + 8) by first | omega | decide) (Nat.le_of_ble_eq_true rfl) (fun r658046 w658047 dc658043 ds658044 hp658045 => ?_) (fun _ _ _ _ _ z => z.elim)
  rcases hp658045 with ⟨rfl, rfl, hdc, hds, r658048, r658049⟩ | ⟨rfl, rfl, hdc, hds, r658050, r658051⟩
  · exact absurd (show False by omega) not_false
  · change G _ _ _ _ _ _ _ (.int 1 :: _) _ _ _
    refine G_widen (cs' := 1) (sl' := 2 * (n658017 - n657874) + 0 + 0) (by omega) (by omega) ?_
    refine G_if_eq 45 dr_cJ5_append_3fe6f_21 (by decide +kernel) (fun hc => absurd hc (by decide)) (fun _ => ?_)
    refine G_aload_n 0 dr_cJ5_append_3fe6f_24 rfl ?_
    refine Gp_get 0 hm658032 he658028 dr_cJ5_append_3fe6f_25 (gk_J4 D I) (Nat.le_of_ble_eq_true rfl) wr_7_60 rfl ?_
    refine G_aload_n 0 dr_cJ5_append_3fe6f_28 rfl ?_
    refine G_dup dr_cJ5_append_3fe6f_29 rfl ?_
    refine Gp_get 3 hm658032 he658028 dr_cJ5_append_3fe6f_30 (gk_J4 D I) (Nat.le_of_ble_eq_true rfl) wr_7_64 rfl ?_
    refine G_dup_x1 dr_cJ5_append_3fe6f_33 rfl rfl ?_
    refine G_iconst 1 dr_cJ5_append_3fe6f_34 (by decide +kernel) ?_
    refine G_iadd dr_cJ5_append_3fe6f_35 (G_nam fun z658053 hz658053 => ?_)
    have ez658053 : z658053.toInt = p657872.toInt + 1 := by rw [gI_add hz658053 bp657872 (gBl (show Int32.toInt 1 = 1 by decide)) (by decide) (by decide), show Int32.toInt 1 = 1 from by decide]
    have bz658053 : gB z658053 1 16777217 := gB_add (gI_add hz658053 bp657872 (gBl (show Int32.toInt 1 = 1 by decide)) (by decide) (by decide)) bp657872 (gBl (show Int32.toInt 1 = 1 by decide)) (by decide) (by decide)
    refine Gp_put 3 hm658032 he658028 dr_cJ5_append_3fe6f_36 (gk_J4 D I) (Nat.le_of_ble_eq_true rfl) wr_7_64 rfl rfl rfl (Nat.le_of_ble_eq_true rfl) (fun F658054 e658055 n658056 => ?_)
    have he658057 : F658054 q657869 = .inl (I .byte, n657874, .inl f657873) := (n658056 q657869 (rn_ao he658036 he658028)).trans he658036
    have he658058 : F658054 q658016 = .inl (I .byte, n658017, .inl f658018) := (n658056 q658016 (rn_ao he658029 he658028)).trans he658029
    have he658059 : F658054 q657868 = .inr (1, [.ref q658016, .int 0, .int p657871, .int z658053]) := e658055
    have hfr658060 : rFr [q657868] P657866 F657867 F658054 := rFr_put' List.mem_cons_self hfr658037 n658056
    refine G_iload_n 1 dr_cJ5_append_3fe6f_39 rfl ?_
    refine G_i2b dr_cJ5_append_3fe6f_40 (G_nam fun z658061 hz658061 => ?_)
    have bz658061 : gB z658061 (-128) 127 := gB_i2b hz658061
    refine Gp_bast 1 hm658030 he658058 dr_cJ5_append_3fe6f_41 rfl (gB_inr (by omega) (by omega)) (fun F658062 e658063 n658064 => ?_)
    obtain ⟨f658065, hf658065⟩ : ∃ z, z = upd f658018 p657872.toNatClampNeg (vp_nar .byte z658061) := ⟨_, rfl⟩
    rw [← hf658065] at e658063
    have he658067 : F658062 q657868 = .inr (1, [.ref q658016, .int 0, .int p657871, .int z658053]) := (n658064 q657868 (rn_oa he658059 he658058)).trans he658059
    have he658068 : F658062 q658016 = .inl (I .byte, n658017, .inl f658065) := e658063
    have hfr658069 : rFr [q657869, q657868] P657866 F657867 F658062 := rFr_eit hor658034 hfr658060 n658064
    have bf658065 : gF f658065 (-128) 127 := gF_upd hf658065 bf658018 gB_byte
    refine G_goto 75 dr_cJ5_append_3fe6f_42 (by decide +kernel) ?_
    refine G_aload_n 0 dr_cJ5_append_3fe6f_75 rfl ?_
    exact G_aretA (FieldType.object "java/lang/AbstractStringBuilder") dr_cJ5_append_3fe6f_76 rfl (by first | exact Or.inl ⟨_, rfl⟩ | exact Or.inr ⟨_, rfl⟩) (Or.inr ⟨_, rfl⟩) (Nat.le_of_ble_eq_true rfl) (show 2 * (n658017 - n657874) + 0 + 0 ≤ (4 * n657874 + 8) by omega) ⟨P658024, F658062, z658053, q658016, n658017, f658065, rfl, rfl, hsb658035, hfr658069, he658067, he658068, hm658030, hor658034, (Nat.le_of_ble_eq_true rfl), (by omega), ⟨by omega, by omega⟩, bf658065, (by have qa0 : Int32.toInt 0 = 0 := (by decide); omega), (by have qa0 : Int32.toInt 0 = 0 := (by decide); omega), (by have qa0 : Int32.toInt 0 = 0 := (by decide); omega), (by have qa0 : Int32.toInt 0 = 0 := (by decide); omega), (fun R c1 => c1 z657879 n658017 f658018 z658053 z658061 f658065 ez657879 ht658023 r658051 ez658053 hz658061 hf658065)⟩
/- tr_RStringBuilder_append2: a.0...count, a.0.value.#, a.0.value.[] -/
def tr_RStringBuilder_append2 (a1 : Int32) (a0_count : Int32) (a0_value_v : Nat → Int32) (a0_value_n : Nat) (o1 : Int32) (o2 : Nat) (o3 : Nat → Int32) : Prop := ∀ R : (Int32) → (Nat) → (Nat → Int32) → Prop,
  (∀ (x1 : Int32) (x2 : Nat) (x3 : Nat → Int32), gB x1 1 16777216 → tr_RAbstractStringBuilder_append2 a1 a0_count a0_value_v a0_value_n x1 x2 x3 → R x1 x2 x3) →
  R o1 o2 o3
abbrev ky_657865_StringBuilder_append : gKey := (cJ4_append_cf468, 2, "java/lang/StringBuilder", (some (FieldType.object "java/lang/StringBuilder")), [], "append", fun _ _ => True)
def pp_657865_StringBuilder_append (D : va_G) (I : FieldType → ClassId) (P657853 : List Nat) (F657854 : Nat → va_E) (q657855 : Nat) (q657856 : Nat) (p657857 : Int32) (p657858 : Int32) (p657859 : Int32) (f657860 : Nat → Int32) (n657861 : Nat) : Option Value → va_W → Nat → Nat → Prop := fun r w dc ds => ∃ (P658107 : List Nat) (F658108 : Nat → va_E) (o658103 : Int32) (q658104 : Nat) (n658105 : Nat) (f658106 : Nat → Int32), r = some (.ref q657855) ∧ w = va_pl P658107 F658108 ∧ rSub P657853 P658107 ∧ rFr [q657856, q657855] P657853 F657854 F658108 ∧ F658108 q657855 = .inr (1, [.ref q658104, .int 0, .int p657858, .int o658103]) ∧ F658108 q658104 = .inl (I .byte, n658105, .inl f658106) ∧ q658104 ∈ P658107 ∧ (q658104 = q657856 ∨ q658104 ∉ P657853) ∧ dc ≤ 1 ∧ ds ≤ 2 * (n658105 - n657861) ∧ gB o658103 1 16777216 ∧ gF f658106 (-128) 127 ∧ o658103.toInt = p657859.toInt + 1 ∧ o658103.toInt ≤ (n658105 : Int) ∧ (n657861 : Int) ≤ (n658105 : Int) ∧ (n658105 : Int) ≤ 2 * (n657861 : Int) + 2 ∧ tr_RStringBuilder_append2 p657857 p657859 f657860 n657861 o658103 n658105 f658106
set_option maxRecDepth 100000 in
set_option maxHeartbeats 4000000 in
theorem cp_657865_StringBuilder_append (l : Launch) (hl0 : l.stackTraces = false) (D : va_G) (I : FieldType → ClassId) (P657853 : List Nat) (F657854 : Nat → va_E) (q657855 : Nat) (q657856 : Nat) (p657857 : Int32) (p657858 : Int32) (p657859 : Int32) (f657860 : Nat → Int32) (n657861 : Nat) (hmq657855 : q657855 ∈ P657853) (hmq657856 : q657856 ∈ P657853) (heq657855 : F657854 q657855 = .inr (1, [.ref q657856, .int 0, .int p657858, .int p657859])) (heq657856 : F657854 q657856 = .inl (I .byte, n657861, .inl f657860)) (bp657857 : gB p657857 0 255) (bp657858 : gB p657858 0 1) (bp657859 : gB p657859 0 16777216) (bf657860 : gF f657860 (-128) 127) (x657862 : (n657861 : Int) ≤ 8388608 - 100000) (x657863 : p657859.toInt ≤ (n657861 : Int)) (x657864 : ((n657861 : Int) ≤ 16777216)) : CtA (gV D I) l yJ4_append_cf468 cJ4_append_cf468 2 (some (FieldType.object "java/lang/StringBuilder")) 5 105 1 (4 * n657861 + 8) [.ref q657855, .int p657857] (va_pl P657853 F657854) (pp_657865_StringBuilder_append D I P657853 F657854 q657855 q657856 p657857 p657858 p657859 f657860 n657861) gNA := by
  refine CtA_ofF hl0 (by decide +kernel) (Nat.le_of_ble_eq_true rfl) ?_
  refine G_aload_n 0 dr_cJ4_append_cf468_0 rfl ?_
  refine G_iload_n 1 dr_cJ4_append_cf468_1 rfl ?_
  refine Gw_callSU (As := [.int p657857]) (gV_ok D I) (cp_657878_AbstractStringBuilder_append l hl0 D I P657853 F657854 q657855 q657856 p657857 p657858 p657859 f657860 n657861 hmq657855 hmq657856 heq657855 heq657856 bp657857 bp657858 bp657859 bf657860 (by have qa0 : Int32.toInt 0 = 0 := (by decide); omega) (by have qa0 : Int32.toInt 0 = 0 := (by decide); omega) (by have qa0 : Int32.toInt 0 = 0 := (by decide); omega)) dr_cJ4_append_cf468_2 ⟨wr_8_1, wr_1_19, wr_8_3, by decide, rfl, (Nat.le_of_ble_eq_true rfl), (Nat.le_of_ble_eq_true rfl)⟩ wr_8_2 wr_11_224 wr_7_73 wr_7_44 (by decide) hmq657855 heq657855 rfl (show 0 + 1 ≤ 1 by first | omega | decide) (show 0 + (4 * n657861 + 8) ≤ (4 * n657861 + 8) by first | omega | decide) (Nat.le_of_ble_eq_true rfl) (fun r658079 w658080 dc658076 ds658077 hp658078 => ?_)
  obtain ⟨P658090, F658091, o658081, q658082, n658083, f658084, rfl, rfl, hsb658092, hfr658093, he658094, he658095, hm658096, hq658097, hdc, hds, bo658081, bf658084, x658085, x658086, x658087, x658088, ht658089⟩ := hp658078
  have hm658098 : q657855 ∈ P658090 := hsb658092 q657855 hmq657855
  have hm658099 : q657856 ∈ P658090 := hsb658092 q657856 hmq657856
  have hor658100 : q658082 = q657856 ∨ q658082 ∉ P657853 := hq658097.elim Or.inl (fun n => Or.inr (fun z => n ((rSub_rf (P := P657853)) _ z)))
  have hsb658101 : rSub P657853 P658090 := rSub_tr (rSub_rf (P := P657853)) hsb658092
  have hfr658102 : rFr [q657856, q657855] P657853 F657854 F658091 := rFr_call (rSub_rf (P := P657853)) (rFr_rf (W := []) (P := P657853) (F := F657854)) hfr658093 (fun b hb hn => ⟨nm_n, (nm_c (fun e => hn (e ▸ List.mem_cons_self)) (nm_c (fun e => hn (e ▸ (List.mem_cons_of_mem _ List.mem_cons_self))) nm_n))⟩)
  change G _ _ _ _ _ _ _ (.ref q657855 :: _) _ _ _
  refine G_widen (cs' := 1) (sl' := 2 * (n658083 - n657861)) (by omega) (by omega) ?_
  refine G_pop dr_cJ4_append_cf468_5 rfl ?_
  refine G_aload_n 0 dr_cJ4_append_cf468_6 rfl ?_
  exact G_aretA (FieldType.object "java/lang/StringBuilder") dr_cJ4_append_cf468_7 rfl (by first | exact Or.inl ⟨_, rfl⟩ | exact Or.inr ⟨_, rfl⟩) (Or.inr ⟨_, rfl⟩) (Nat.le_of_ble_eq_true rfl) (show 2 * (n658083 - n657861) ≤ (4 * n657861 + 8) by omega) ⟨P658090, F658091, o658081, q658082, n658083, f658084, rfl, rfl, hsb658101, hfr658102, he658094, he658095, hm658096, hor658100, (Nat.le_of_ble_eq_true rfl), (by omega), bo658081, bf658084, (by have qa0 : Int32.toInt 0 = 0 := (by decide); omega), (by have qa0 : Int32.toInt 0 = 0 := (by decide); omega), (by have qa0 : Int32.toInt 0 = 0 := (by decide); omega), (by have qa0 : Int32.toInt 0 = 0 := (by decide); omega), (fun R c1 => c1 o658081 n658083 f658084 bo658081 ht658089)⟩
/- tr_RAbstractStringBuilder_setLength: a.0...maybeLatin1 -/
def tr_RAbstractStringBuilder_setLength (a0_maybeLatin1 : Int32) (a0_count : Int32) (a0_value_n : Nat) (o1 : Int32) : Prop := ∀ R : (Int32) → Prop,
  (tr_RAbstractStringBuilder_ensureCapacityInternal (0 : Int32) a0_value_n → 0 ≤ a0_count.toInt → a0_count.toInt ≤ 0 → R a0_maybeLatin1) →
  (tr_RAbstractStringBuilder_ensureCapacityInternal (0 : Int32) a0_value_n → 0 ≤ a0_count.toInt → 0 < a0_count.toInt → R (1 : Int32)) →
  R o1
abbrev ky_658128_AbstractStringBuilder_setLength : gKey := (cJ5_setLength_d00df, 2, "java/lang/AbstractStringBuilder", none, [], "setLength", fun _ _ => True)
def pp_658128_AbstractStringBuilder_setLength (D : va_G) (I : FieldType → ClassId) (P658119 : List Nat) (F658120 : Nat → va_E) (q658121 : Nat) (q658122 : Nat) (p658123 : Int32) (p658124 : Int32) (f658125 : Nat → Int32) (n658126 : Nat) : Option Value → va_W → Nat → Nat → Prop := fun r w dc ds => ∃ (F658161 : Nat → va_E) (o658159 : Int32), r = none ∧ w = va_pl P658119 F658161 ∧ rFr [q658121] P658119 F658120 F658161 ∧ F658161 q658121 = .inr (1, [.ref q658122, .int 0, .int o658159, .int 0]) ∧ F658161 q658122 = .inl (I .byte, n658126, .inl f658125) ∧ dc ≤ 0 ∧ ds ≤ 0 ∧ gB o658159 0 1 ∧ 0 = 0 ∧ tr_RAbstractStringBuilder_setLength p658123 p658124 n658126 o658159
set_option maxRecDepth 100000 in
set_option maxHeartbeats 4000000 in
theorem cp_658128_AbstractStringBuilder_setLength (l : Launch) (hl0 : l.stackTraces = false) (D : va_G) (I : FieldType → ClassId) (P658119 : List Nat) (F658120 : Nat → va_E) (q658121 : Nat) (q658122 : Nat) (p658123 : Int32) (p658124 : Int32) (f658125 : Nat → Int32) (n658126 : Nat) (hmq658121 : q658121 ∈ P658119) (hmq658122 : q658122 ∈ P658119) (heq658121 : F658120 q658121 = .inr (1, [.ref q658122, .int 0, .int p658123, .int p658124])) (heq658122 : F658120 q658122 = .inl (I .byte, n658126, .inl f658125)) (bp658123 : gB p658123 0 1) (bp658124 : gB p658124 0 16777216) (bf658125 : gF f658125 (-128) 127) (x658127 : ((n658126 : Int) ≤ 16777216)) : CtA (gV D I) l yJ5_setLength_d00df cJ5_setLength_d00df 2 none 1 22 0 0 [.ref q658121, .int 0] (va_pl P658119 F658120) (pp_658128_AbstractStringBuilder_setLength D I P658119 F658120 q658121 q658122 p658123 p658124 f658125 n658126) gNA := by
  refine CtA_ofF hl0 (by decide +kernel) (Nat.le_of_ble_eq_true rfl) ?_
  refine G_iload_n 1 dr_cJ5_setLength_d00df_0 rfl ?_
  refine G_if_ge 13 dr_cJ5_setLength_d00df_1 (by decide +kernel) (fun _ => ?_) (fun hc => absurd hc (by decide))
  refine G_aload_n 0 dr_cJ5_setLength_d00df_13 rfl ?_
  refine G_iload_n 1 dr_cJ5_setLength_d00df_14 rfl ?_
  refine Gw_callVB (As := [.int 0]) (gV_ok D I) (cp_657770_AbstractStringBuilder_ensureCapacityInternal l hl0 D I P658119 F658120 q658121 q658122 0 p658123 p658124 f658125 n658126 hmq658121 hmq658122 heq658121 heq658122 (gB_w (gBl (show Int32.toInt 0 = 0 by decide)) (by decide) (by decide)) bp658123 bp658124 bf658125 (by have qa0 : Int32.toInt 0 = 0 := (by decide); omega) (by have qa0 : Int32.toInt 0 = 0 := (by decide); omega)) dr_cJ5_setLength_d00df_15 ⟨wr_8_4, wr_1_19, wr_8_7, by decide, rfl, (Nat.le_of_ble_eq_true rfl), (Nat.le_of_ble_eq_true rfl)⟩ wr_8_6 wr_s_0 hmq658121 heq658121 rfl (show 0 + 0 ≤ 0 by first | omega | decide) (show 0 + 0 ≤ 0 by first | omega | decide) (Nat.le_of_ble_eq_true rfl) (fun r658132 w658133 dc658129 ds658130 hp658131 => ?_) (fun _ _ _ _ _ z => z.elim)
  obtain ⟨rfl, rfl, hdc, hds, ht658134⟩ := hp658131
  change G _ _ _ _ _ _ _ _ _ _ _
  refine G_widen (cs' := 0) (sl' := 0) (by omega) (by omega) ?_
  refine G_aload_n 0 dr_cJ5_setLength_d00df_18 rfl ?_
  refine Gp_get 3 hmq658121 heq658121 dr_cJ5_setLength_d00df_19 (gk_J4 D I) (Nat.le_of_ble_eq_true rfl) wr_7_64 rfl ?_
  refine G_iload_n 1 dr_cJ5_setLength_d00df_22 rfl ?_
  refine G_icmp_ge 63 dr_cJ5_setLength_d00df_23 (by decide +kernel) (fun hc658135 => ?_) (fun hc => absurd (show False by have := gj_nleL hc (show Int32.toInt 0 = 0 by decide); omega) not_false)
  have r658137 : 0 ≤ p658124.toInt := gj_leL hc658135 (show Int32.toInt 0 = 0 by decide)
  refine G_aload_n 0 dr_cJ5_setLength_d00df_63 rfl ?_
  refine Gp_get 3 hmq658121 heq658121 dr_cJ5_setLength_d00df_64 (gk_J4 D I) (Nat.le_of_ble_eq_true rfl) wr_7_64 rfl ?_
  refine G_iload_n 1 dr_cJ5_setLength_d00df_67 rfl ?_
  refine G_icmp_le 76 dr_cJ5_setLength_d00df_68 (by decide +kernel) (fun hc658138 => ?_) (fun hc658138 => ?_)
  · have r658139 : p658124.toInt ≤ 0 := gj_le hc658138 (show Int32.toInt 0 = 0 by decide)
    have bp658124' : gB p658124 0 0 := ⟨by omega, by omega⟩
    refine G_aload_n 0 dr_cJ5_setLength_d00df_76 rfl ?_
    refine G_iload_n 1 dr_cJ5_setLength_d00df_77 rfl ?_
    refine Gp_put 3 hmq658121 heq658121 dr_cJ5_setLength_d00df_78 (gk_J4 D I) (Nat.le_of_ble_eq_true rfl) wr_7_64 rfl rfl rfl (Nat.le_of_ble_eq_true rfl) (fun F658140 e658141 n658142 => ?_)
    have he658143 : F658140 q658122 = .inl (I .byte, n658126, .inl f658125) := (n658142 q658122 (rn_ao heq658122 heq658121)).trans heq658122
    have he658144 : F658140 q658121 = .inr (1, [.ref q658122, .int 0, .int p658123, .int 0]) := e658141
    have hfr658145 : rFr [q658121] P658119 F658120 F658140 := rFr_put (rFr_rf (W := []) (P := P658119) (F := F658120)) n658142
    exact G_vretA dr_cJ5_setLength_d00df_81 rfl (Nat.le_of_ble_eq_true rfl) (Nat.le_of_ble_eq_true rfl) ⟨F658140, p658123, rfl, rfl, hfr658145, he658144, he658143, (Nat.le_of_ble_eq_true rfl), (Nat.le_of_ble_eq_true rfl), bp658123, (by have qa0 : Int32.toInt 0 = 0 := (by decide); omega), (fun R c1 c2 => c1 ht658134 r658137 r658139)⟩
  · have r658146 : 0 < p658124.toInt := gj_nle hc658138 (show Int32.toInt 0 = 0 by decide)
    have bp658124' : gB p658124 1 16777216 := ⟨by omega, by omega⟩
    refine G_aload_n 0 dr_cJ5_setLength_d00df_71 rfl ?_
    refine G_iconst 1 dr_cJ5_setLength_d00df_72 (by decide +kernel) ?_
    refine Gp_put 2 hmq658121 heq658121 dr_cJ5_setLength_d00df_73 (gk_J4 D I) (Nat.le_of_ble_eq_true rfl) wr_7_62 rfl rfl rfl (Nat.le_of_ble_eq_true rfl) (fun F658147 e658148 n658149 => ?_)
    have he658150 : F658147 q658122 = .inl (I .byte, n658126, .inl f658125) := (n658149 q658122 (rn_ao heq658122 heq658121)).trans heq658122
    have he658151 : F658147 q658121 = .inr (1, [.ref q658122, .int 0, .int 1, .int p658124]) := e658148
    have hfr658152 : rFr [q658121] P658119 F658120 F658147 := rFr_put (rFr_rf (W := []) (P := P658119) (F := F658120)) n658149
    refine G_aload_n 0 dr_cJ5_setLength_d00df_76 rfl ?_
    refine G_iload_n 1 dr_cJ5_setLength_d00df_77 rfl ?_
    refine Gp_put 3 hmq658121 he658151 dr_cJ5_setLength_d00df_78 (gk_J4 D I) (Nat.le_of_ble_eq_true rfl) wr_7_64 rfl rfl rfl (Nat.le_of_ble_eq_true rfl) (fun F658153 e658154 n658155 => ?_)
    have he658156 : F658153 q658122 = .inl (I .byte, n658126, .inl f658125) := (n658155 q658122 (rn_ao he658150 he658151)).trans he658150
    have he658157 : F658153 q658121 = .inr (1, [.ref q658122, .int 0, .int 1, .int 0]) := e658154
    have hfr658158 : rFr [q658121] P658119 F658120 F658153 := rFr_put' List.mem_cons_self hfr658152 n658155
    exact G_vretA dr_cJ5_setLength_d00df_81 rfl (Nat.le_of_ble_eq_true rfl) (Nat.le_of_ble_eq_true rfl) ⟨F658153, 1, rfl, rfl, hfr658158, he658157, he658156, (Nat.le_of_ble_eq_true rfl), (Nat.le_of_ble_eq_true rfl), (gB_w (gBl (show Int32.toInt 1 = 1 by decide)) (by decide) (by decide)), (by have qa0 : Int32.toInt 0 = 0 := (by decide); have qa1 : Int32.toInt 1 = 1 := (by decide); omega), (fun R c1 c2 => c2 ht658134 r658137 r658146)⟩
/- tr_RStringBuilder_setLength: a.0...maybeLatin1 -/
def tr_RStringBuilder_setLength (a0_maybeLatin1 : Int32) (a0_count : Int32) (a0_value_n : Nat) (o1 : Int32) : Prop := ∀ R : (Int32) → Prop,
  (∀ (x1 : Int32), gB x1 0 1 → tr_RAbstractStringBuilder_setLength a0_maybeLatin1 a0_count a0_value_n x1 → R x1) →
  R o1
abbrev ky_658118_StringBuilder_setLength : gKey := (cJ4_setLength_d00df, 2, "java/lang/StringBuilder", none, [], "setLength", fun _ _ => True)
def pp_658118_StringBuilder_setLength (D : va_G) (I : FieldType → ClassId) (P658109 : List Nat) (F658110 : Nat → va_E) (q658111 : Nat) (q658112 : Nat) (p658113 : Int32) (p658114 : Int32) (f658115 : Nat → Int32) (n658116 : Nat) : Option Value → va_W → Nat → Nat → Prop := fun r w dc ds => ∃ (F658178 : Nat → va_E) (o658176 : Int32), r = none ∧ w = va_pl P658109 F658178 ∧ rFr [q658111] P658109 F658110 F658178 ∧ F658178 q658111 = .inr (1, [.ref q658112, .int 0, .int o658176, .int 0]) ∧ F658178 q658112 = .inl (I .byte, n658116, .inl f658115) ∧ dc ≤ 0 ∧ ds ≤ 0 ∧ gB o658176 0 1 ∧ 0 = 0 ∧ tr_RStringBuilder_setLength p658113 p658114 n658116 o658176
set_option maxRecDepth 100000 in
set_option maxHeartbeats 4000000 in
theorem cp_658118_StringBuilder_setLength (l : Launch) (hl0 : l.stackTraces = false) (D : va_G) (I : FieldType → ClassId) (P658109 : List Nat) (F658110 : Nat → va_E) (q658111 : Nat) (q658112 : Nat) (p658113 : Int32) (p658114 : Int32) (f658115 : Nat → Int32) (n658116 : Nat) (hmq658111 : q658111 ∈ P658109) (hmq658112 : q658112 ∈ P658109) (heq658111 : F658110 q658111 = .inr (1, [.ref q658112, .int 0, .int p658113, .int p658114])) (heq658112 : F658110 q658112 = .inl (I .byte, n658116, .inl f658115)) (bp658113 : gB p658113 0 1) (bp658114 : gB p658114 0 16777216) (bf658115 : gF f658115 (-128) 127) (x658117 : ((n658116 : Int) ≤ 16777216)) : CtA (gV D I) l yJ4_setLength_d00df cJ4_setLength_d00df 2 none 2 43 0 0 [.ref q658111, .int 0] (va_pl P658109 F658110) (pp_658118_StringBuilder_setLength D I P658109 F658110 q658111 q658112 p658113 p658114 f658115 n658116) gNA := by
  refine CtA_ofF hl0 (by decide +kernel) (Nat.le_of_ble_eq_true rfl) ?_
  refine G_aload_n 0 dr_cJ4_setLength_d00df_0 rfl ?_
  refine G_iload_n 1 dr_cJ4_setLength_d00df_1 rfl ?_
  refine Gw_callSU (As := [.int 0]) (gV_ok D I) (cp_658128_AbstractStringBuilder_setLength l hl0 D I P658109 F658110 q658111 q658112 p658113 p658114 f658115 n658116 hmq658111 hmq658112 heq658111 heq658112 bp658113 bp658114 bf658115 (by have qa0 : Int32.toInt 0 = 0 := (by decide); omega)) dr_cJ4_setLength_d00df_2 ⟨wr_11_129, wr_1_19, wr_11_131, by decide, rfl, (Nat.le_of_ble_eq_true rfl), (Nat.le_of_ble_eq_true rfl)⟩ wr_11_130 wr_11_233 wr_7_73 wr_7_44 (by decide) hmq658111 heq658111 rfl (show 0 + 0 ≤ 0 by first | omega | decide) (show 0 + 0 ≤ 0 by first | omega | decide) (Nat.le_of_ble_eq_true rfl) (fun r658165 w658166 dc658162 ds658163 hp658164 => ?_)
  obtain ⟨F658170, o658167, rfl, rfl, hfr658172, he658173, he658174, hdc, hds, bo658167, x658168, ht658169⟩ := hp658164
  have hfr658175 : rFr [q658111] P658109 F658110 F658170 := rFr_call (rSub_rf (P := P658109)) (rFr_rf (W := []) (P := P658109) (F := F658110)) hfr658172 (fun b hb hn => ⟨nm_n, (nm_c (fun e => hn (e ▸ List.mem_cons_self)) nm_n)⟩)
  change G _ _ _ _ _ _ _ _ _ _ _
  refine G_widen (cs' := 0) (sl' := 0) (by omega) (by omega) ?_
  exact G_vretA dr_cJ4_setLength_d00df_5 rfl (Nat.le_of_ble_eq_true rfl) (Nat.le_of_ble_eq_true rfl) ⟨F658170, o658167, rfl, rfl, hfr658175, he658173, he658174, (Nat.le_of_ble_eq_true rfl), (Nat.le_of_ble_eq_true rfl), bo658167, (by have qa0 : Int32.toInt 0 = 0 := (by decide); omega), (fun R c1 => c1 o658167 bo658167 ht658169)⟩
abbrev ky_658190_AbstractStringBuilder_init : gKey := (cJ5_init_d00df, 2, "java/lang/AbstractStringBuilder", none, [], "<init>", fun _ _ => True)
def pp_658190_AbstractStringBuilder_init (D : va_G) (I : FieldType → ClassId) (P658185 : List Nat) (F658186 : Nat → va_E) (q658187 : Nat) (p658188 : Int32) (p658189 : Int32) : Option Value → va_W → Nat → Nat → Prop := fun r w dc ds => ∃ (P658218 : List Nat) (F658219 : Nat → va_E) (q658217 : Nat), r = none ∧ w = va_pl P658218 F658219 ∧ rSub P658185 P658218 ∧ rFr [q658187] P658185 F658186 F658219 ∧ F658219 q658187 = .inr (1, [.ref q658217, .int 0, .int p658188, .int p658189]) ∧ F658219 q658217 = .inl (I .byte, 16, .inl (fun _ => 0)) ∧ q658217 ∈ P658218 ∧ q658217 ∉ P658185 ∧ dc ≤ 1 ∧ ds ≤ 16
set_option maxRecDepth 100000 in
set_option maxHeartbeats 4000000 in
theorem cp_658190_AbstractStringBuilder_init (l : Launch) (hl0 : l.stackTraces = false) (D : va_G) (I : FieldType → ClassId) (P658185 : List Nat) (F658186 : Nat → va_E) (q658187 : Nat) (p658188 : Int32) (p658189 : Int32) (hmq658187 : q658187 ∈ P658185) (heq658187 : F658186 q658187 = .inr (1, [.null, .int 0, .int p658188, .int p658189])) (bp658188 : gB p658188 0 1) (bp658189 : gB p658189 0 16777216) : CtA (gV D I) l yJ5_init_d00df cJ5_init_d00df 2 none 1 12 1 16 [.ref q658187, .int 16] (va_pl P658185 F658186) (pp_658190_AbstractStringBuilder_init D I P658185 F658186 q658187 p658188 p658189) gNA := by
  refine CtA_ofF hl0 (by decide +kernel) (Nat.le_of_ble_eq_true rfl) ?_
  refine G_aload_n 0 dr_cJ5_init_d00df_0 rfl ?_
  refine G_obj dr_cJ5_init_d00df_1 wr_7_51 wr_1_51 wr_1_52 (Nat.le_of_ble_eq_true rfl) (Nat.le_of_ble_eq_true rfl) ?_
  refine G_gets dr_cJ5_init_d00df_4 wr_7_52 gz_cs (fun x hx => ?_)
  subst hx
  refine G_if_eq 25 dr_cJ5_init_d00df_7 (by decide +kernel) (fun hc => absurd hc (by decide)) (fun _ => ?_)
  refine G_aload_n 0 dr_cJ5_init_d00df_10 rfl ?_
  refine G_iload_n 1 dr_cJ5_init_d00df_11 rfl ?_
  refine G_newa 1 (16, .inl (fun _ => 0)) dr_cJ5_init_d00df_12 rfl rfl (by intro C h; cases h) wr_1_66 (fun _ => ga_byte _ _) (by decide) (by decide) (by decide) (show 0 + 1 ≤ 1 by first | omega | decide) (show 0 + 16 ≤ 16 by first | omega | decide) (fun q658191 => Gp_in (fun P658192 F658193 hq658194 hP658195 e658196 n658197 => ?_))
  refine G_widen (cs' := 1) (sl' := 16) (by omega) (by omega) ?_
  have he658198 : F658193 q658187 = .inr (1, [.null, .int 0, .int p658188, .int p658189]) := (n658197 q658187 (fun h => hq658194 (h ▸ hmq658187))).trans heq658187
  have he658199 : F658193 q658191 = .inl (I .byte, 16, .inl (fun _ => 0)) := e658196
  have hm658200 : q658187 ∈ P658192 := (hP658195 q658187).mpr (Or.inl hmq658187)
  have hm658201 : q658191 ∈ P658192 := (hP658195 q658191).mpr (Or.inr rfl)
  have hq658202 : q658191 ∉ P658185 := fun z => hq658194 ((rSub_rf (P := P658185)) q658191 z)
  have hfr658203 : rFr [] P658185 F658186 F658193 := rFr_new (rSub_rf (P := P658185)) hq658194 (rFr_rf (W := []) (P := P658185) (F := F658186)) n658197
  have hsb658204 : rSub P658185 P658192 := rSub_new (rSub_rf (P := P658185)) hP658195
  refine Gp_put 0 hm658200 he658198 dr_cJ5_init_d00df_14 (gk_J4 D I) (Nat.le_of_ble_eq_true rfl) wr_7_60 rfl rfl rfl (Nat.le_of_ble_eq_true rfl) (fun F658205 e658206 n658207 => ?_)
  have he658208 : F658205 q658191 = .inl (I .byte, 16, .inl (fun _ => 0)) := (n658207 q658191 (fun h => hq658202 (h ▸ hmq658187))).trans he658199
  have he658209 : F658205 q658187 = .inr (1, [.ref q658191, .int 0, .int p658188, .int p658189]) := e658206
  have hfr658210 : rFr [q658187] P658185 F658186 F658205 := rFr_put hfr658203 n658207
  refine G_aload_n 0 dr_cJ5_init_d00df_17 rfl ?_
  refine G_iconst 0 dr_cJ5_init_d00df_18 (by decide +kernel) ?_
  refine Gp_put 1 hm658200 he658209 dr_cJ5_init_d00df_19 (gk_J4 D I) (Nat.le_of_ble_eq_true rfl) wr_7_61 rfl rfl rfl (Nat.le_of_ble_eq_true rfl) (fun F658211 e658212 n658213 => ?_)
  have he658214 : F658211 q658191 = .inl (I .byte, 16, .inl (fun _ => 0)) := (n658213 q658191 (fun h => hq658202 (h ▸ hmq658187))).trans he658208
  have he658215 : F658211 q658187 = .inr (1, [.ref q658191, .int 0, .int p658188, .int p658189]) := e658212
  have hfr658216 : rFr [q658187] P658185 F658186 F658211 := rFr_put' List.mem_cons_self hfr658210 n658213
  refine G_goto 38 dr_cJ5_init_d00df_22 (by decide +kernel) ?_
  exact G_vretA dr_cJ5_init_d00df_38 rfl (Nat.le_of_ble_eq_true rfl) (Nat.le_of_ble_eq_true rfl) ⟨P658192, F658211, q658191, rfl, rfl, hsb658204, hfr658216, he658215, he658214, hm658201, hq658202, (Nat.le_of_ble_eq_true rfl), (Nat.le_of_ble_eq_true rfl)⟩
abbrev ky_658184_StringBuilder_init : gKey := (cJ4_init_da8c8, 1, "java/lang/StringBuilder", none, [], "<init>", fun _ _ => True)
def pp_658184_StringBuilder_init (D : va_G) (I : FieldType → ClassId) (P658179 : List Nat) (F658180 : Nat → va_E) (q658181 : Nat) (p658182 : Int32) (p658183 : Int32) : Option Value → va_W → Nat → Nat → Prop := fun r w dc ds => ∃ (P658239 : List Nat) (F658240 : Nat → va_E) (q658238 : Nat), r = none ∧ w = va_pl P658239 F658240 ∧ rSub P658179 P658239 ∧ rFr [q658181] P658179 F658180 F658240 ∧ F658240 q658181 = .inr (1, [.ref q658238, .int 0, .int p658182, .int p658183]) ∧ F658240 q658238 = .inl (I .byte, 16, .inl (fun _ => 0)) ∧ q658238 ∈ P658239 ∧ q658238 ∉ P658179 ∧ dc ≤ 1 ∧ ds ≤ 16
set_option maxRecDepth 100000 in
set_option maxHeartbeats 4000000 in
theorem cp_658184_StringBuilder_init (l : Launch) (hl0 : l.stackTraces = false) (D : va_G) (I : FieldType → ClassId) (P658179 : List Nat) (F658180 : Nat → va_E) (q658181 : Nat) (p658182 : Int32) (p658183 : Int32) (hmq658181 : q658181 ∈ P658179) (heq658181 : F658180 q658181 = .inr (1, [.null, .int 0, .int p658182, .int p658183])) (bp658182 : gB p658182 0 1) (bp658183 : gB p658183 0 16777216) : CtA (gV D I) l yJ4_init_da8c8 cJ4_init_da8c8 1 none 2 33 1 16 [.ref q658181] (va_pl P658179 F658180) (pp_658184_StringBuilder_init D I P658179 F658180 q658181 p658182 p658183) gNA := by
  refine CtA_ofF hl0 (by decide +kernel) (Nat.le_of_ble_eq_true rfl) ?_
  refine G_aload_n 0 dr_cJ4_init_da8c8_0 rfl ?_
  refine G_bipush 16 dr_cJ4_init_da8c8_1 (by decide +kernel) ?_
  refine Gw_callI (As := [.int 16]) (gV_ok D I) (cp_658190_AbstractStringBuilder_init l hl0 D I P658179 F658180 q658181 p658182 p658183 hmq658181 heq658181 bp658182 bp658183) dr_cJ4_init_da8c8_3 ⟨wr_7_48, wr_1_19, wr_7_50, by decide, rfl, (Nat.le_of_ble_eq_true rfl), (Nat.le_of_ble_eq_true rfl)⟩ wr_7_49 rfl (show 0 + 1 ≤ 1 by first | omega | decide) (show 0 + 16 ≤ 16 by first | omega | decide) (Nat.le_of_ble_eq_true rfl) (fun r658223 w658224 dc658220 ds658221 hp658222 => ?_)
  obtain ⟨P658226, F658227, q658225, rfl, rfl, hsb658228, hfr658229, he658230, he658231, hm658232, hq658233, hdc, hds⟩ := hp658222
  have hm658234 : q658181 ∈ P658226 := hsb658228 q658181 hmq658181
  have hq658235 : q658225 ∉ P658179 := fun z => hq658233 ((rSub_rf (P := P658179)) q658225 z)
  have hsb658236 : rSub P658179 P658226 := rSub_tr (rSub_rf (P := P658179)) hsb658228
  have hfr658237 : rFr [q658181] P658179 F658180 F658227 := rFr_call (rSub_rf (P := P658179)) (rFr_rf (W := []) (P := P658179) (F := F658180)) hfr658229 (fun b hb hn => ⟨nm_n, (nm_c (fun e => hn (e ▸ List.mem_cons_self)) nm_n)⟩)
  change G _ _ _ _ _ _ _ _ _ _ _
  refine G_widen (cs' := 1) (sl' := 16) (by omega) (by omega) ?_
  exact G_vretA dr_cJ4_init_da8c8_6 rfl (Nat.le_of_ble_eq_true rfl) (Nat.le_of_ble_eq_true rfl) ⟨P658226, F658227, q658225, rfl, rfl, hsb658236, hfr658237, he658230, he658231, hm658232, hq658235, (Nat.le_of_ble_eq_true rfl), (Nat.le_of_ble_eq_true rfl)⟩
abbrev ky_658297_String_coder : gKey := (cJ0_coder_7d493, 1, "java/lang/String", (some FieldType.byte), [], "coder", fun _ _ => True)
def pp_658297_String_coder (D : va_G) (I : FieldType → ClassId) (P658288 : List Nat) (F658289 : Nat → va_E) (q658290 : Nat) (q658291 : Nat) (p658292 : Int32) (p658293 : Int32) (f658294 : Nat → Int32) (n658295 : Nat) : Option Value → va_W → Nat → Nat → Prop := fun r w dc ds => r = some (.int 0) ∧ w = va_pl P658288 F658289 ∧ dc ≤ 0 ∧ ds ≤ 0
set_option maxRecDepth 100000 in
set_option maxHeartbeats 4000000 in
theorem cp_658297_String_coder (l : Launch) (hl0 : l.stackTraces = false) (D : va_G) (I : FieldType → ClassId) (P658288 : List Nat) (F658289 : Nat → va_E) (q658290 : Nat) (q658291 : Nat) (p658292 : Int32) (p658293 : Int32) (f658294 : Nat → Int32) (n658295 : Nat) (hmq658290 : q658290 ∈ P658288) (hmq658291 : q658291 ∈ P658288) (heq658290 : F658289 q658290 = .inr (0, [.ref q658291, .int 0, .int p658292, .int p658293])) (heq658291 : F658289 q658291 = .inl (I .byte, n658295, .inl f658294)) (bp658293 : gB p658293 0 1) (bf658294 : gF f658294 (-128) 127) (x658296 : ((n658295 : Int) ≤ 16777216)) : CtA (gV D I) l yJ0_coder_7d493 cJ0_coder_7d493 1 (some FieldType.byte) 0 0 0 0 [.ref q658290] (va_pl P658288 F658289) (pp_658297_String_coder D I P658288 F658289 q658290 q658291 p658292 p658293 f658294 n658295) gNA := by
  refine CtA_ofF hl0 (by decide +kernel) (Nat.le_of_ble_eq_true rfl) ?_
  have bp658292 := gB_any p658292
  refine G_gets dr_cJ0_coder_7d493_0 wr_3_65 gz_cs (fun x hx => ?_)
  subst hx
  refine G_if_eq 13 dr_cJ0_coder_7d493_3 (by decide +kernel) (fun hc => absurd hc (by decide)) (fun _ => ?_)
  refine G_aload_n 0 dr_cJ0_coder_7d493_6 rfl ?_
  refine Gp_get 1 hmq658290 heq658290 dr_cJ0_coder_7d493_7 (gk_J0 D I) (Nat.le_of_ble_eq_true rfl) wr_8_183 rfl ?_
  refine G_goto 14 dr_cJ0_coder_7d493_10 (by decide +kernel) ?_
  exact G_zretA FieldType.byte dr_cJ0_coder_7d493_14 rfl rfl (Nat.le_of_ble_eq_true rfl) (Nat.le_of_ble_eq_true rfl) ⟨rfl, rfl, (Nat.le_of_ble_eq_true rfl), (Nat.le_of_ble_eq_true rfl)⟩
/- tr_RString_length: result -/
def tr_RString_length (a0_value_n : Nat) (o1 : Int32) : Prop := ∀ R : (Int32) → Prop,
  (∀ (x1 : Int32) (x2 : Int32), x1.toInt = (a0_value_n : Nat) → x2.toInt = x1.toInt / 1 → R x2) →
  R o1
abbrev ky_658286_String_length : gKey := (cJ0_length_8abf5, 1, "java/lang/String", (some FieldType.int), [], "length", fun _ _ => True)
def pp_658286_String_length (D : va_G) (I : FieldType → ClassId) (P658277 : List Nat) (F658278 : Nat → va_E) (q658279 : Nat) (q658280 : Nat) (p658281 : Int32) (p658282 : Int32) (f658283 : Nat → Int32) (n658284 : Nat) : Option Value → va_W → Nat → Nat → Prop := fun r w dc ds => ∃ (o658304 : Int32), r = some (.int o658304) ∧ w = va_pl P658277 F658278 ∧ dc ≤ 0 ∧ ds ≤ 0 ∧ gB o658304 0 16777216 ∧ o658304.toInt = (n658284 : Int) ∧ tr_RString_length n658284 o658304
set_option maxRecDepth 100000 in
set_option maxHeartbeats 4000000 in
theorem cp_658286_String_length (l : Launch) (hl0 : l.stackTraces = false) (D : va_G) (I : FieldType → ClassId) (P658277 : List Nat) (F658278 : Nat → va_E) (q658279 : Nat) (q658280 : Nat) (p658281 : Int32) (p658282 : Int32) (f658283 : Nat → Int32) (n658284 : Nat) (hmq658279 : q658279 ∈ P658277) (hmq658280 : q658280 ∈ P658277) (heq658279 : F658278 q658279 = .inr (0, [.ref q658280, .int 0, .int p658281, .int p658282])) (heq658280 : F658278 q658280 = .inl (I .byte, n658284, .inl f658283)) (bp658282 : gB p658282 0 1) (bf658283 : gF f658283 (-128) 127) (x658285 : ((n658284 : Int) ≤ 16777216)) : CtA (gV D I) l yJ0_length_8abf5 cJ0_length_8abf5 1 (some FieldType.int) 1 20 0 0 [.ref q658279] (va_pl P658277 F658278) (pp_658286_String_length D I P658277 F658278 q658279 q658280 p658281 p658282 f658283 n658284) gNA := by
  refine CtA_ofF hl0 (by decide +kernel) (Nat.le_of_ble_eq_true rfl) ?_
  have bp658281 := gB_any p658281
  refine G_aload_n 0 dr_cJ0_length_8abf5_0 rfl ?_
  refine Gp_get 0 hmq658279 heq658279 dr_cJ0_length_8abf5_1 (gk_J0 D I) (Nat.le_of_ble_eq_true rfl) wr_8_182 rfl ?_
  refine Gp_alen (Int32.ofNat n658284) 1 hmq658280 heq658280 dr_cJ0_length_8abf5_4 rfl rfl (G_nam fun z658287 hz658287 => ?_)
  have ez658287 : z658287.toInt = (n658284 : Nat) := gI_ofM hz658287 (by omega)
  have bz658287 : gB z658287 0 16777216 := ⟨by omega, by omega⟩
  refine G_aload_n 0 dr_cJ0_length_8abf5_5 rfl ?_
  refine Gw_callV (As := []) (gV_ok D I) (cp_658297_String_coder l hl0 D I P658277 F658278 q658279 q658280 p658281 p658282 f658283 n658284 hmq658279 hmq658280 heq658279 heq658280 bp658282 bf658283 (by have qa0 : Int32.toInt 0 = 0 := (by decide); omega)) dr_cJ0_length_8abf5_6 ⟨wr_3_61, wr_1_21, wr_3_64, by decide, rfl, (Nat.le_of_ble_eq_true rfl), (Nat.le_of_ble_eq_true rfl)⟩ wr_3_62 wr_3_63 hmq658279 heq658279 rfl (show 0 + 0 ≤ 0 by first | omega | decide) (show 0 + 0 ≤ 0 by first | omega | decide) (Nat.le_of_ble_eq_true rfl) (fun r658301 w658302 dc658298 ds658299 hp658300 => ?_) (fun _ _ _ _ _ z => z.elim)
  obtain ⟨rfl, rfl, hdc, hds⟩ := hp658300
  change G _ _ _ _ _ _ _ (.int 0 :: _) _ _ _
  refine G_widen (cs' := 0) (sl' := 0) (by omega) (by omega) ?_
  refine G_ishr dr_cJ0_length_8abf5_9 (G_nam fun z658303 hz658303 => ?_)
  have ez658303 : z658303.toInt = z658287.toInt / 1 := gI_shr (k := 0) hz658303 (by decide)
  have bz658303 : gB z658303 0 16777216 := ⟨by omega, by omega⟩
  exact G_iretA dr_cJ0_length_8abf5_10 rfl (Nat.le_of_ble_eq_true rfl) (Nat.le_of_ble_eq_true rfl) ⟨z658303, rfl, rfl, (Nat.le_of_ble_eq_true rfl), (Nat.le_of_ble_eq_true rfl), bz658303, (by have qa0 : Int32.toInt 0 = 0 := (by decide); omega), (fun R c1 => c1 z658287 z658303 ez658287 ez658303)⟩
abbrev ky_658355_AbstractStringBuilder_inflateIfNeededFor : gKey := (cJ5_inflateIfNeededFor_a7421, 2, "java/lang/AbstractStringBuilder", none, [], "inflateIfNeededFor", fun _ _ => True)
def pp_658355_AbstractStringBuilder_inflateIfNeededFor (D : va_G) (I : FieldType → ClassId) (P658339 : List Nat) (F658340 : Nat → va_E) (q658341 : Nat) (q658342 : Nat) (q658343 : Nat) (q658344 : Nat) (p658345 : Int32) (p658346 : Int32) (p658347 : Int32) (p658348 : Int32) (f658349 : Nat → Int32) (n658350 : Nat) (f658351 : Nat → Int32) (n658352 : Nat) : Option Value → va_W → Nat → Nat → Prop := fun r w dc ds => r = none ∧ w = va_pl P658339 F658340 ∧ dc ≤ 0 ∧ ds ≤ 0
set_option maxRecDepth 100000 in
set_option maxHeartbeats 4000000 in
theorem cp_658355_AbstractStringBuilder_inflateIfNeededFor (l : Launch) (hl0 : l.stackTraces = false) (D : va_G) (I : FieldType → ClassId) (P658339 : List Nat) (F658340 : Nat → va_E) (q658341 : Nat) (q658342 : Nat) (q658343 : Nat) (q658344 : Nat) (p658345 : Int32) (p658346 : Int32) (p658347 : Int32) (p658348 : Int32) (f658349 : Nat → Int32) (n658350 : Nat) (f658351 : Nat → Int32) (n658352 : Nat) (hmq658341 : q658341 ∈ P658339) (hmq658342 : q658342 ∈ P658339) (hmq658343 : q658343 ∈ P658339) (hmq658344 : q658344 ∈ P658339) (heq658341 : F658340 q658341 = .inr (1, [.ref q658343, .int 0, .int p658345, .int p658346])) (heq658342 : F658340 q658342 = .inr (0, [.ref q658344, .int 0, .int p658347, .int p658348])) (heq658343 : F658340 q658343 = .inl (I .byte, n658350, .inl f658349)) (heq658344 : F658340 q658344 = .inl (I .byte, n658352, .inl f658351)) (hneq658343q658344 : q658343 ≠ q658344) (bp658345 : gB p658345 0 1) (bp658346 : gB p658346 0 16777216) (bp658348 : gB p658348 0 1) (bf658349 : gF f658349 (-128) 127) (bf658351 : gF f658351 (-128) 127) (x658353 : ((n658350 : Int) ≤ 16777216)) (x658354 : ((n658352 : Int) ≤ 16777216)) : CtA (gV D I) l yJ5_inflateIfNeededFor_a7421 cJ5_inflateIfNeededFor_a7421 2 none 1 20 0 0 [.ref q658341, .ref q658342] (va_pl P658339 F658340) (pp_658355_AbstractStringBuilder_inflateIfNeededFor D I P658339 F658340 q658341 q658342 q658343 q658344 p658345 p658346 p658347 p658348 f658349 n658350 f658351 n658352) gNA := by
  refine CtA_ofF hl0 (by decide +kernel) (Nat.le_of_ble_eq_true rfl) ?_
  have bp658347 := gB_any p658347
  refine G_gets dr_cJ5_inflateIfNeededFor_a7421_0 wr_7_52 gz_cs (fun x hx => ?_)
  subst hx
  refine G_if_eq 21 dr_cJ5_inflateIfNeededFor_a7421_3 (by decide +kernel) (fun hc => absurd hc (by decide)) (fun _ => ?_)
  refine G_aload_n 0 dr_cJ5_inflateIfNeededFor_a7421_6 rfl ?_
  refine Gp_get 1 hmq658341 heq658341 dr_cJ5_inflateIfNeededFor_a7421_7 (gk_J4 D I) (Nat.le_of_ble_eq_true rfl) wr_7_61 rfl ?_
  refine G_aload_n 1 dr_cJ5_inflateIfNeededFor_a7421_10 rfl ?_
  refine Gw_callV (As := []) (gV_ok D I) (cp_658297_String_coder l hl0 D I P658339 F658340 q658342 q658344 p658347 p658348 f658351 n658352 hmq658342 hmq658344 heq658342 heq658344 bp658348 bf658351 (by have qa0 : Int32.toInt 0 = 0 := (by decide); omega)) dr_cJ5_inflateIfNeededFor_a7421_11 ⟨wr_8_163, wr_1_21, wr_3_64, by decide, rfl, (Nat.le_of_ble_eq_true rfl), (Nat.le_of_ble_eq_true rfl)⟩ wr_3_62 wr_3_63 hmq658342 heq658342 rfl (show 0 + 0 ≤ 0 by first | omega | decide) (show 0 + 0 ≤ 0 by first | omega | decide) (Nat.le_of_ble_eq_true rfl) (fun r658359 w658360 dc658356 ds658357 hp658358 => ?_) (fun _ _ _ _ _ z => z.elim)
  obtain ⟨rfl, rfl, hdc, hds⟩ := hp658358
  change G _ _ _ _ _ _ _ (.int 0 :: _) _ _ _
  refine G_widen (cs' := 0) (sl' := 0) (by omega) (by omega) ?_
  refine G_icmp_eq 21 dr_cJ5_inflateIfNeededFor_a7421_14 (by decide +kernel) (fun _ => ?_) (fun hc => absurd hc (by decide))
  exact G_vretA dr_cJ5_inflateIfNeededFor_a7421_21 rfl (Nat.le_of_ble_eq_true rfl) (Nat.le_of_ble_eq_true rfl) ⟨rfl, rfl, (Nat.le_of_ble_eq_true rfl), (Nat.le_of_ble_eq_true rfl)⟩
/- tr_RString_getBytes: a.1.[] -/
def tr_RString_getBytes (a2 : Int32) (a1_v : Nat → Int32) (a0_value_v : Nat → Int32) (a0_value_n : Nat) (o1 : Nat → Int32) : Prop := ∀ R : (Nat → Int32) → Prop,
  (∀ (x1 : Int32) (x2 : Int32) (x3 : Nat → Int32), x1.toInt = a2.toInt * 1 → x2.toInt = (a0_value_n : Nat) → x3 = va_cpy a0_value_v a1_v (0 : Int32).toNatClampNeg x1.toNatClampNeg x2.toNatClampNeg → R x3) →
  R o1
abbrev ky_658381_String_getBytes : gKey := (cJ0_getBytes_840e7, 4, "java/lang/String", none, [], "getBytes", fun _ _ => True)
def pp_658381_String_getBytes (D : va_G) (I : FieldType → ClassId) (P658366 : List Nat) (F658367 : Nat → va_E) (q658368 : Nat) (q658369 : Nat) (q658370 : Nat) (p658371 : Int32) (p658372 : Int32) (p658373 : Int32) (f658374 : Nat → Int32) (n658375 : Nat) (f658376 : Nat → Int32) (n658377 : Nat) : Option Value → va_W → Nat → Nat → Prop := fun r w dc ds => ∃ (F658399 : Nat → va_E) (f658397 : Nat → Int32), r = none ∧ w = va_pl P658366 F658399 ∧ rFr [q658369] P658366 F658367 F658399 ∧ F658399 q658368 = .inr (0, [.ref q658370, .int 0, .int p658372, .int p658373]) ∧ F658399 q658369 = .inl (I .byte, n658375, .inl f658397) ∧ F658399 q658370 = .inl (I .byte, n658377, .inl f658376) ∧ dc ≤ 0 ∧ ds ≤ 0 ∧ gF f658397 (-128) 127 ∧ sK f658374 f658397 p658371.toInt ∧ sF f658376 f658397 p658371.toInt (n658377 : Int) ∧ tr_RString_getBytes p658371 f658374 f658376 n658377 f658397
set_option maxRecDepth 100000 in
set_option maxHeartbeats 4000000 in
theorem cp_658381_String_getBytes (l : Launch) (hl0 : l.stackTraces = false) (D : va_G) (I : FieldType → ClassId) (P658366 : List Nat) (F658367 : Nat → va_E) (q658368 : Nat) (q658369 : Nat) (q658370 : Nat) (p658371 : Int32) (p658372 : Int32) (p658373 : Int32) (f658374 : Nat → Int32) (n658375 : Nat) (f658376 : Nat → Int32) (n658377 : Nat) (hmq658368 : q658368 ∈ P658366) (hmq658369 : q658369 ∈ P658366) (hmq658370 : q658370 ∈ P658366) (heq658368 : F658367 q658368 = .inr (0, [.ref q658370, .int 0, .int p658372, .int p658373])) (heq658369 : F658367 q658369 = .inl (I .byte, n658375, .inl f658374)) (heq658370 : F658367 q658370 = .inl (I .byte, n658377, .inl f658376)) (hneq658369q658370 : q658369 ≠ q658370) (bp658371 : gB p658371 0 16777216) (bp658373 : gB p658373 0 1) (bf658374 : gF f658374 (-128) 127) (bf658376 : gF f658376 (-128) 127) (x658378 : p658371.toInt + (n658377 : Int) ≤ (n658375 : Int)) (x658379 : ((n658375 : Int) ≤ 16777216)) (x658380 : ((n658377 : Int) ≤ 16777216)) : CtA (gV D I) l yJ0_getBytes_840e7 cJ0_getBytes_840e7 4 none 1 20 0 0 [.ref q658368, .ref q658369, .int p658371, .int 0] (va_pl P658366 F658367) (pp_658381_String_getBytes D I P658366 F658367 q658368 q658369 q658370 p658371 p658372 p658373 f658374 n658375 f658376 n658377) gNA := by
  refine CtA_ofF hl0 (by decide +kernel) (Nat.le_of_ble_eq_true rfl) ?_
  have bp658372 := gB_any p658372
  refine G_aload_n 0 dr_cJ0_getBytes_840e7_0 rfl ?_
  refine Gw_callV (As := []) (gV_ok D I) (cp_658297_String_coder l hl0 D I P658366 F658367 q658368 q658370 p658372 p658373 f658376 n658377 hmq658368 hmq658370 heq658368 heq658370 bp658373 bf658376 (by have qa0 : Int32.toInt 0 = 0 := (by decide); omega)) dr_cJ0_getBytes_840e7_1 ⟨wr_3_61, wr_1_21, wr_3_64, by decide, rfl, (Nat.le_of_ble_eq_true rfl), (Nat.le_of_ble_eq_true rfl)⟩ wr_3_62 wr_3_63 hmq658368 heq658368 rfl (show 0 + 0 ≤ 0 by first | omega | decide) (show 0 + 0 ≤ 0 by first | omega | decide) (Nat.le_of_ble_eq_true rfl) (fun r658385 w658386 dc658382 ds658383 hp658384 => ?_) (fun _ _ _ _ _ z => z.elim)
  obtain ⟨rfl, rfl, hdc, hds⟩ := hp658384
  change G _ _ _ _ _ _ _ (.int 0 :: _) _ _ _
  refine G_widen (cs' := 0) (sl' := 0) (by omega) (by omega) ?_
  refine G_iload_n 3 dr_cJ0_getBytes_840e7_4 rfl ?_
  refine G_icmp_ne 28 dr_cJ0_getBytes_840e7_5 (by decide +kernel) (fun hc => absurd hc (by decide)) (fun _ => ?_)
  refine G_aload_n 0 dr_cJ0_getBytes_840e7_8 rfl ?_
  refine Gp_get 0 hmq658368 heq658368 dr_cJ0_getBytes_840e7_9 (gk_J0 D I) (Nat.le_of_ble_eq_true rfl) wr_8_182 rfl ?_
  refine G_iconst 0 dr_cJ0_getBytes_840e7_12 (by decide +kernel) ?_
  refine G_aload_n 1 dr_cJ0_getBytes_840e7_13 rfl ?_
  refine G_iload_n 2 dr_cJ0_getBytes_840e7_14 rfl ?_
  refine G_iload_n 3 dr_cJ0_getBytes_840e7_15 rfl ?_
  refine G_ishl dr_cJ0_getBytes_840e7_16 (G_nam fun z658387 hz658387 => ?_)
  have ez658387 : z658387.toInt = p658371.toInt * 1 := gI_shl (k := 0) hz658387 (by decide) bp658371 (by decide) (by decide)
  have bz658387 : gB z658387 0 16777216 := ⟨by omega, by omega⟩
  refine G_aload_n 0 dr_cJ0_getBytes_840e7_17 rfl ?_
  refine Gp_get 0 hmq658368 heq658368 dr_cJ0_getBytes_840e7_18 (gk_J0 D I) (Nat.le_of_ble_eq_true rfl) wr_8_182 rfl ?_
  refine Gp_alen (Int32.ofNat n658377) 1 hmq658370 heq658370 dr_cJ0_getBytes_840e7_21 rfl rfl (G_nam fun z658388 hz658388 => ?_)
  have ez658388 : z658388.toInt = (n658377 : Nat) := gI_ofM hz658388 (by omega)
  have bz658388 : gB z658388 0 16777216 := ⟨by omega, by omega⟩
  refine Gp_copyp 1 hmq658370 hmq658369 heq658370 heq658369 dr_cJ0_getBytes_840e7_22 wr_8_168 wr_5_113 wr_5_112 wr_1_34 rfl rfl (fun j => gT_byte (bf658376 j)) (by decide) (by omega) (by omega) (by have qa0 : Int32.toInt 0 = 0 := (by decide); omega) (by have qa0 : Int32.toInt 0 = 0 := (by decide); omega) (Nat.le_of_ble_eq_true rfl) (Nat.le_of_ble_eq_true rfl) (fun F658389 e658390 n658391 => ?_)
  obtain ⟨f658392, hf658392⟩ : ∃ z, z = va_cpy f658376 f658374 (0 : Int32).toNatClampNeg z658387.toNatClampNeg z658388.toNatClampNeg := ⟨_, rfl⟩
  rw [← hf658392] at e658390
  have bf658392 : gF f658392 (-128) 127 := gF_cpy hf658392 bf658376 bf658374
  have he658393 : F658389 q658368 = .inr (0, [.ref q658370, .int 0, .int p658372, .int p658373]) := (n658391 q658368 (rn_oa heq658368 heq658369)).trans heq658368
  have he658394 : F658389 q658370 = .inl (I .byte, n658377, .inl f658376) := (n658391 q658370 (Ne.symm hneq658369q658370)).trans heq658370
  have he658395 : F658389 q658369 = .inl (I .byte, n658375, .inl f658392) := e658390
  have hfr658396 : rFr [q658369] P658366 F658367 F658389 := rFr_put (rFr_rf (W := []) (P := P658366) (F := F658367)) n658391
  refine G_goto 43 dr_cJ0_getBytes_840e7_25 (by decide +kernel) ?_
  exact G_vretA dr_cJ0_getBytes_840e7_43 rfl (Nat.le_of_ble_eq_true rfl) (Nat.le_of_ble_eq_true rfl) ⟨F658389, f658392, rfl, rfl, hfr658396, he658393, he658395, he658394, (Nat.le_of_ble_eq_true rfl), (Nat.le_of_ble_eq_true rfl), bf658392, (sK_cpy hf658392 (by omega)), (sF_cpy hf658392 (by decide) (by omega) (by omega)), (fun R c1 => c1 z658387 z658388 f658392 ez658387 ez658388 hf658392)⟩
/- tr_RAbstractStringBuilder_putStringAt: a.0.value.[] -/
def tr_RAbstractStringBuilder_putStringAt (a1 : Int32) (a0_value_v : Nat → Int32) (a2_value_v : Nat → Int32) (a2_value_n : Nat) (o1 : Nat → Int32) : Prop := ∀ R : (Nat → Int32) → Prop,
  (∀ (x1 : Nat → Int32), tr_RString_getBytes a1 a0_value_v a2_value_v a2_value_n x1 → R x1) →
  R o1
abbrev ky_658338_AbstractStringBuilder_putStringAt : gKey := (cJ5_putStringAt_47b60, 3, "java/lang/AbstractStringBuilder", none, [], "putStringAt", fun _ _ => True)
def pp_658338_AbstractStringBuilder_putStringAt (D : va_G) (I : FieldType → ClassId) (P658320 : List Nat) (F658321 : Nat → va_E) (q658322 : Nat) (q658323 : Nat) (q658324 : Nat) (q658325 : Nat) (p658326 : Int32) (p658327 : Int32) (p658328 : Int32) (p658329 : Int32) (p658330 : Int32) (f658331 : Nat → Int32) (n658332 : Nat) (f658333 : Nat → Int32) (n658334 : Nat) : Option Value → va_W → Nat → Nat → Prop := fun r w dc ds => ∃ (F658419 : Nat → va_E) (f658417 : Nat → Int32), r = none ∧ w = va_pl P658320 F658419 ∧ rFr [q658324] P658320 F658321 F658419 ∧ F658419 q658322 = .inr (1, [.ref q658324, .int 0, .int p658327, .int p658328]) ∧ F658419 q658323 = .inr (0, [.ref q658325, .int 0, .int p658329, .int p658330]) ∧ F658419 q658324 = .inl (I .byte, n658332, .inl f658417) ∧ F658419 q658325 = .inl (I .byte, n658334, .inl f658333) ∧ dc ≤ 0 ∧ ds ≤ 0 ∧ gF f658417 (-128) 127 ∧ sK f658331 f658417 p658326.toInt ∧ sF f658333 f658417 p658326.toInt (n658334 : Int) ∧ tr_RAbstractStringBuilder_putStringAt p658326 f658331 f658333 n658334 f658417
set_option maxRecDepth 100000 in
set_option maxHeartbeats 4000000 in
theorem cp_658338_AbstractStringBuilder_putStringAt (l : Launch) (hl0 : l.stackTraces = false) (D : va_G) (I : FieldType → ClassId) (P658320 : List Nat) (F658321 : Nat → va_E) (q658322 : Nat) (q658323 : Nat) (q658324 : Nat) (q658325 : Nat) (p658326 : Int32) (p658327 : Int32) (p658328 : Int32) (p658329 : Int32) (p658330 : Int32) (f658331 : Nat → Int32) (n658332 : Nat) (f658333 : Nat → Int32) (n658334 : Nat) (hmq658322 : q658322 ∈ P658320) (hmq658323 : q658323 ∈ P658320) (hmq658324 : q658324 ∈ P658320) (hmq658325 : q658325 ∈ P658320) (heq658322 : F658321 q658322 = .inr (1, [.ref q658324, .int 0, .int p658327, .int p658328])) (heq658323 : F658321 q658323 = .inr (0, [.ref q658325, .int 0, .int p658329, .int p658330])) (heq658324 : F658321 q658324 = .inl (I .byte, n658332, .inl f658331)) (heq658325 : F658321 q658325 = .inl (I .byte, n658334, .inl f658333)) (hneq658324q658325 : q658324 ≠ q658325) (bp658326 : gB p658326 0 16777216) (bp658327 : gB p658327 0 1) (bp658328 : gB p658328 0 16777216) (bp658330 : gB p658330 0 1) (bf658331 : gF f658331 (-128) 127) (bf658333 : gF f658333 (-128) 127) (x658335 : p658326.toInt + (n658334 : Int) ≤ (n658332 : Int)) (x658336 : ((n658332 : Int) ≤ 16777216)) (x658337 : ((n658334 : Int) ≤ 16777216)) : CtA (gV D I) l yJ5_putStringAt_47b60 cJ5_putStringAt_47b60 3 none 2 43 0 0 [.ref q658322, .int p658326, .ref q658323] (va_pl P658320 F658321) (pp_658338_AbstractStringBuilder_putStringAt D I P658320 F658321 q658322 q658323 q658324 q658325 p658326 p658327 p658328 p658329 p658330 f658331 n658332 f658333 n658334) gNA := by
  refine CtA_ofF hl0 (by decide +kernel) (Nat.le_of_ble_eq_true rfl) ?_
  have bp658329 := gB_any p658329
  refine G_aload_n 0 dr_cJ5_putStringAt_47b60_0 rfl ?_
  refine G_aload_n 2 dr_cJ5_putStringAt_47b60_1 rfl ?_
  refine Gw_callVB (As := [.ref q658323]) (gV_ok D I) (cp_658355_AbstractStringBuilder_inflateIfNeededFor l hl0 D I P658320 F658321 q658322 q658323 q658324 q658325 p658327 p658328 p658329 p658330 f658331 n658332 f658333 n658334 hmq658322 hmq658323 hmq658324 hmq658325 heq658322 heq658323 heq658324 heq658325 hneq658324q658325 bp658327 bp658328 bp658330 bf658331 bf658333 (by have qa0 : Int32.toInt 0 = 0 := (by decide); omega) (by have qa0 : Int32.toInt 0 = 0 := (by decide); omega)) dr_cJ5_putStringAt_47b60_2 ⟨wr_8_159, wr_1_19, wr_8_162, by decide, rfl, (Nat.le_of_ble_eq_true rfl), (Nat.le_of_ble_eq_true rfl)⟩ wr_8_161 wr_s_5 hmq658322 heq658322 rfl (show 0 + 0 ≤ 0 by first | omega | decide) (show 0 + 0 ≤ 0 by first | omega | decide) (Nat.le_of_ble_eq_true rfl) (fun r658364 w658365 dc658361 ds658362 hp658363 => ?_) (fun _ _ _ _ _ z => z.elim)
  obtain ⟨rfl, rfl, hdc, hds⟩ := hp658363
  change G _ _ _ _ _ _ _ _ _ _ _
  refine G_widen (cs' := 0) (sl' := 0) (by omega) (by omega) ?_
  refine G_aload_n 2 dr_cJ5_putStringAt_47b60_5 rfl ?_
  refine G_aload_n 0 dr_cJ5_putStringAt_47b60_6 rfl ?_
  refine Gp_get 0 hmq658322 heq658322 dr_cJ5_putStringAt_47b60_7 (gk_J4 D I) (Nat.le_of_ble_eq_true rfl) wr_7_60 rfl ?_
  refine G_iload_n 1 dr_cJ5_putStringAt_47b60_10 rfl ?_
  refine G_aload_n 0 dr_cJ5_putStringAt_47b60_11 rfl ?_
  refine Gp_get 1 hmq658322 heq658322 dr_cJ5_putStringAt_47b60_12 (gk_J4 D I) (Nat.le_of_ble_eq_true rfl) wr_7_61 rfl ?_
  refine Gw_callV (As := [.ref q658324, .int p658326, .int 0]) (gV_ok D I) (cp_658381_String_getBytes l hl0 D I P658320 F658321 q658323 q658324 q658325 p658326 p658329 p658330 f658331 n658332 f658333 n658334 hmq658323 hmq658324 hmq658325 heq658323 heq658324 heq658325 hneq658324q658325 bp658326 bp658330 bf658331 bf658333 (by have qa0 : Int32.toInt 0 = 0 := (by decide); omega) (by have qa0 : Int32.toInt 0 = 0 := (by decide); omega) (by have qa0 : Int32.toInt 0 = 0 := (by decide); omega)) dr_cJ5_putStringAt_47b60_15 ⟨wr_8_164, wr_1_21, wr_8_167, by decide, rfl, (Nat.le_of_ble_eq_true rfl), (Nat.le_of_ble_eq_true rfl)⟩ wr_8_165 wr_8_166 hmq658323 heq658323 rfl (show 0 + 0 ≤ 0 by first | omega | decide) (show 0 + 0 ≤ 0 by first | omega | decide) (Nat.le_of_ble_eq_true rfl) (fun r658403 w658404 dc658400 ds658401 hp658402 => ?_) (fun _ _ _ _ _ z => z.elim)
  obtain ⟨F658409, f658405, rfl, rfl, hfr658411, he658412, he658413, he658414, hdc, hds, bf658405, x658406, x658407, ht658408⟩ := hp658402
  have he658415 : F658409 q658322 = .inr (1, [.ref q658324, .int 0, .int p658327, .int p658328]) := (hfr658411 q658322 hmq658322 (nm_c (rn_oa heq658322 heq658324) nm_n)).trans heq658322
  have hfr658416 : rFr [q658324] P658320 F658321 F658409 := rFr_call (rSub_rf (P := P658320)) (rFr_rf (W := []) (P := P658320) (F := F658321)) hfr658411 (fun b hb hn => ⟨nm_n, (nm_c (fun e => hn (e ▸ List.mem_cons_self)) nm_n)⟩)
  change G _ _ _ _ _ _ _ _ _ _ _
  refine G_widen (cs' := 0) (sl' := 0) (by omega) (by omega) ?_
  exact G_vretA dr_cJ5_putStringAt_47b60_18 rfl (Nat.le_of_ble_eq_true rfl) (Nat.le_of_ble_eq_true rfl) ⟨F658409, f658405, rfl, rfl, hfr658416, he658415, he658412, he658413, he658414, (Nat.le_of_ble_eq_true rfl), (Nat.le_of_ble_eq_true rfl), bf658405, (sK_c x658406 (by omega)), (by assumption), (fun R c1 => c1 f658405 ht658408)⟩
/- tr_RAbstractStringBuilder_append3: a.0...count, a.0.value.[] -/
def tr_RAbstractStringBuilder_append3 (a0_count : Int32) (a0_value_v : Nat → Int32) (a0_value_n : Nat) (a1_value_v : Nat → Int32) (a1_value_n : Nat) (o1 : Int32) (o2 : Nat → Int32) : Prop := ∀ R : (Int32) → (Nat → Int32) → Prop,
  (∀ (x1 : Int32) (x2 : Int32) (x3 : Nat → Int32) (x4 : Int32), gB x1 0 16777216 → tr_RString_length a1_value_n x1 → x2.toInt = a0_count.toInt + x1.toInt → tr_RAbstractStringBuilder_ensureCapacityInternal x2 a0_value_n → tr_RAbstractStringBuilder_putStringAt a0_count a0_value_v a1_value_v a1_value_n x3 → x4.toInt = a0_count.toInt + x1.toInt → R x4 x3) →
  R o1 o2
abbrev ky_658276_AbstractStringBuilder_append : gKey := (cJ5_append_cf1ce, 3, "java/lang/AbstractStringBuilder", (some (FieldType.object "java/lang/AbstractStringBuilder")), [], "append", fun _ _ => True)
def pp_658276_AbstractStringBuilder_append (D : va_G) (I : FieldType → ClassId) (P658259 : List Nat) (F658260 : Nat → va_E) (q658261 : Nat) (q658262 : Nat) (q658263 : Nat) (q658264 : Nat) (p658265 : Int32) (p658266 : Int32) (p658267 : Int32) (p658268 : Int32) (f658269 : Nat → Int32) (n658270 : Nat) (f658271 : Nat → Int32) (n658272 : Nat) : Option Value → va_W → Nat → Nat → Prop := fun r w dc ds => ∃ (F658449 : Nat → va_E) (o658446 : Int32) (f658447 : Nat → Int32), r = some (.ref q658261) ∧ w = va_pl P658259 F658449 ∧ rFr [q658261, q658263] P658259 F658260 F658449 ∧ F658449 q658261 = .inr (1, [.ref q658263, .int 0, .int p658265, .int o658446]) ∧ F658449 q658262 = .inr (0, [.ref q658264, .int 0, .int p658267, .int p658268]) ∧ F658449 q658263 = .inl (I .byte, n658270, .inl f658447) ∧ F658449 q658264 = .inl (I .byte, n658272, .inl f658271) ∧ dc ≤ 0 ∧ ds ≤ 0 ∧ gB o658446 0 16777216 ∧ gF f658447 (-128) 127 ∧ o658446.toInt = p658266.toInt + (n658272 : Int) ∧ sK f658269 f658447 p658266.toInt ∧ sF f658271 f658447 p658266.toInt (n658272 : Int) ∧ tr_RAbstractStringBuilder_append3 p658266 f658269 n658270 f658271 n658272 o658446 f658447
set_option maxRecDepth 100000 in
set_option maxHeartbeats 4000000 in
theorem cp_658276_AbstractStringBuilder_append (l : Launch) (hl0 : l.stackTraces = false) (D : va_G) (I : FieldType → ClassId) (P658259 : List Nat) (F658260 : Nat → va_E) (q658261 : Nat) (q658262 : Nat) (q658263 : Nat) (q658264 : Nat) (p658265 : Int32) (p658266 : Int32) (p658267 : Int32) (p658268 : Int32) (f658269 : Nat → Int32) (n658270 : Nat) (f658271 : Nat → Int32) (n658272 : Nat) (hmq658261 : q658261 ∈ P658259) (hmq658262 : q658262 ∈ P658259) (hmq658263 : q658263 ∈ P658259) (hmq658264 : q658264 ∈ P658259) (heq658261 : F658260 q658261 = .inr (1, [.ref q658263, .int 0, .int p658265, .int p658266])) (heq658262 : F658260 q658262 = .inr (0, [.ref q658264, .int 0, .int p658267, .int p658268])) (heq658263 : F658260 q658263 = .inl (I .byte, n658270, .inl f658269)) (heq658264 : F658260 q658264 = .inl (I .byte, n658272, .inl f658271)) (hneq658263q658264 : q658263 ≠ q658264) (bp658265 : gB p658265 0 1) (bp658266 : gB p658266 0 16777216) (bp658268 : gB p658268 0 1) (bf658269 : gF f658269 (-128) 127) (bf658271 : gF f658271 (-128) 127) (x658273 : p658266.toInt + (n658272 : Int) ≤ (n658270 : Int)) (x658274 : ((n658270 : Int) ≤ 16777216)) (x658275 : ((n658272 : Int) ≤ 16777216)) : CtA (gV D I) l yJ5_append_cf1ce cJ5_append_cf1ce 3 (some (FieldType.object "java/lang/AbstractStringBuilder")) 3 65 0 0 [.ref q658261, .ref q658262] (va_pl P658259 F658260) (pp_658276_AbstractStringBuilder_append D I P658259 F658260 q658261 q658262 q658263 q658264 p658265 p658266 p658267 p658268 f658269 n658270 f658271 n658272) gNA := by
  refine CtA_ofF hl0 (by decide +kernel) (Nat.le_of_ble_eq_true rfl) ?_
  have bp658267 := gB_any p658267
  refine G_aload_n 1 dr_cJ5_append_cf1ce_0 rfl ?_
  refine G_ifnonnull 9 dr_cJ5_append_cf1ce_1 (by decide +kernel) ?_
  refine G_aload_n 1 dr_cJ5_append_cf1ce_9 rfl ?_
  refine Gw_callV (As := []) (gV_ok D I) (cp_658286_String_length l hl0 D I P658259 F658260 q658262 q658264 p658267 p658268 f658271 n658272 hmq658262 hmq658264 heq658262 heq658264 bp658268 bf658271 (by have qa0 : Int32.toInt 0 = 0 := (by decide); omega)) dr_cJ5_append_cf1ce_10 ⟨wr_8_154, wr_1_21, wr_3_60, by decide, rfl, (Nat.le_of_ble_eq_true rfl), (Nat.le_of_ble_eq_true rfl)⟩ wr_3_58 wr_3_59 hmq658262 heq658262 rfl (show 0 + 0 ≤ 0 by first | omega | decide) (show 0 + 0 ≤ 0 by first | omega | decide) (Nat.le_of_ble_eq_true rfl) (fun r658308 w658309 dc658305 ds658306 hp658307 => ?_) (fun _ _ _ _ _ z => z.elim)
  obtain ⟨o658310, rfl, rfl, hdc, hds, bo658310, x658311, ht658312⟩ := hp658307
  change G _ _ _ _ _ _ _ (.int o658310 :: _) _ _ _
  refine G_widen (cs' := 0) (sl' := 0) (by omega) (by omega) ?_
  refine G_istore_n (L' := [(2, .int o658310), (0, .ref q658261), (1, .ref q658262)]) dr_cJ5_append_cf1ce_13 (Nat.le_of_ble_eq_true rfl) rfl ?_
  refine G_aload_n 1 dr_cJ5_append_cf1ce_14 rfl ?_
  refine G_aload_n 1 dr_cJ5_append_cf1ce_15 rfl ?_
  refine Gp_get 3 hmq658261 heq658261 dr_cJ5_append_cf1ce_16 (gk_J4 D I) (Nat.le_of_ble_eq_true rfl) wr_7_64 rfl ?_
  refine G_iload_n 0 dr_cJ5_append_cf1ce_19 rfl ?_
  refine G_iadd dr_cJ5_append_cf1ce_20 (G_nam fun z658313 hz658313 => ?_)
  have ez658313 : z658313.toInt = p658266.toInt + o658310.toInt := by rw [gI_add hz658313 bp658266 bo658310 (by decide) (by decide)]
  have bz658313 : gB z658313 0 33554432 := gB_add (gI_add hz658313 bp658266 bo658310 (by decide) (by decide)) bp658266 bo658310 (by decide) (by decide)
  refine Gw_callVB (As := [.int z658313]) (gV_ok D I) (cp_657770_AbstractStringBuilder_ensureCapacityInternal l hl0 D I P658259 F658260 q658261 q658263 z658313 p658265 p658266 f658269 n658270 hmq658261 hmq658263 heq658261 heq658263 ⟨by omega, by omega⟩ bp658265 bp658266 bf658269 (by have qa0 : Int32.toInt 0 = 0 := (by decide); omega) (by have qa0 : Int32.toInt 0 = 0 := (by decide); omega)) dr_cJ5_append_cf1ce_21 ⟨wr_8_4, wr_1_19, wr_8_7, by decide, rfl, (Nat.le_of_ble_eq_true rfl), (Nat.le_of_ble_eq_true rfl)⟩ wr_8_6 wr_s_0 hmq658261 heq658261 rfl (show 0 + 0 ≤ 0 by first | omega | decide) (show 0 + 0 ≤ 0 by first | omega | decide) (Nat.le_of_ble_eq_true rfl) (fun r658317 w658318 dc658314 ds658315 hp658316 => ?_) (fun _ _ _ _ _ z => z.elim)
  obtain ⟨rfl, rfl, hdc, hds, ht658319⟩ := hp658316
  change G _ _ _ _ _ _ _ _ _ _ _
  refine G_widen (cs' := 0) (sl' := 0) (by omega) (by omega) ?_
  refine G_aload_n 1 dr_cJ5_append_cf1ce_24 rfl ?_
  refine G_aload_n 1 dr_cJ5_append_cf1ce_25 rfl ?_
  refine Gp_get 3 hmq658261 heq658261 dr_cJ5_append_cf1ce_26 (gk_J4 D I) (Nat.le_of_ble_eq_true rfl) wr_7_64 rfl ?_
  refine G_aload_n 2 dr_cJ5_append_cf1ce_29 rfl ?_
  refine Gw_callVB (As := [.int p658266, .ref q658262]) (gV_ok D I) (cp_658338_AbstractStringBuilder_putStringAt l hl0 D I P658259 F658260 q658261 q658262 q658263 q658264 p658266 p658265 p658266 p658267 p658268 f658269 n658270 f658271 n658272 hmq658261 hmq658262 hmq658263 hmq658264 heq658261 heq658262 heq658263 heq658264 hneq658263q658264 bp658266 bp658265 bp658266 bp658268 bf658269 bf658271 (by have qa0 : Int32.toInt 0 = 0 := (by decide); omega) (by have qa0 : Int32.toInt 0 = 0 := (by decide); omega) (by have qa0 : Int32.toInt 0 = 0 := (by decide); omega)) dr_cJ5_append_cf1ce_30 ⟨wr_8_155, wr_1_19, wr_8_158, by decide, rfl, (Nat.le_of_ble_eq_true rfl), (Nat.le_of_ble_eq_true rfl)⟩ wr_8_157 wr_s_4 hmq658261 heq658261 rfl (show 0 + 0 ≤ 0 by first | omega | decide) (show 0 + 0 ≤ 0 by first | omega | decide) (Nat.le_of_ble_eq_true rfl) (fun r658423 w658424 dc658420 ds658421 hp658422 => ?_) (fun _ _ _ _ _ z => z.elim)
  obtain ⟨F658429, f658425, rfl, rfl, hfr658431, he658432, he658433, he658434, he658435, hdc, hds, bf658425, x658426, x658427, ht658428⟩ := hp658422
  have hfr658436 : rFr [q658263] P658259 F658260 F658429 := rFr_call (rSub_rf (P := P658259)) (rFr_rf (W := []) (P := P658259) (F := F658260)) hfr658431 (fun b hb hn => ⟨nm_n, (nm_c (fun e => hn (e ▸ List.mem_cons_self)) nm_n)⟩)
  change G _ _ _ _ _ _ _ _ _ _ _
  refine G_widen (cs' := 0) (sl' := 0) (by omega) (by omega) ?_
  refine G_aload_n 1 dr_cJ5_append_cf1ce_33 rfl ?_
  refine G_dup dr_cJ5_append_cf1ce_34 rfl ?_
  refine Gp_get 3 hmq658261 he658432 dr_cJ5_append_cf1ce_35 (gk_J4 D I) (Nat.le_of_ble_eq_true rfl) wr_7_64 rfl ?_
  refine G_iload_n 0 dr_cJ5_append_cf1ce_38 rfl ?_
  refine G_iadd dr_cJ5_append_cf1ce_39 (G_nam fun z658437 hz658437 => ?_)
  have ez658437 : z658437.toInt = p658266.toInt + o658310.toInt := by rw [gI_add hz658437 bp658266 bo658310 (by decide) (by decide)]
  have bz658437 : gB z658437 0 33554432 := gB_add (gI_add hz658437 bp658266 bo658310 (by decide) (by decide)) bp658266 bo658310 (by decide) (by decide)
  refine Gp_put 3 hmq658261 he658432 dr_cJ5_append_cf1ce_40 (gk_J4 D I) (Nat.le_of_ble_eq_true rfl) wr_7_64 rfl rfl rfl (Nat.le_of_ble_eq_true rfl) (fun F658438 e658439 n658440 => ?_)
  have he658441 : F658438 q658262 = .inr (0, [.ref q658264, .int 0, .int p658267, .int p658268]) := (n658440 q658262 (rn_oo he658433 he658432 (by decide))).trans he658433
  have he658442 : F658438 q658263 = .inl (I .byte, n658270, .inl f658425) := (n658440 q658263 (rn_ao he658434 he658432)).trans he658434
  have he658443 : F658438 q658264 = .inl (I .byte, n658272, .inl f658271) := (n658440 q658264 (rn_ao he658435 he658432)).trans he658435
  have he658444 : F658438 q658261 = .inr (1, [.ref q658263, .int 0, .int p658265, .int z658437]) := e658439
  have hfr658445 : rFr [q658261, q658263] P658259 F658260 F658438 := rFr_put hfr658436 n658440
  refine G_aload_n 1 dr_cJ5_append_cf1ce_43 rfl ?_
  exact G_aretA (FieldType.object "java/lang/AbstractStringBuilder") dr_cJ5_append_cf1ce_44 rfl (by first | exact Or.inl ⟨_, rfl⟩ | exact Or.inr ⟨_, rfl⟩) (Or.inr ⟨_, rfl⟩) (Nat.le_of_ble_eq_true rfl) (Nat.le_of_ble_eq_true rfl) ⟨F658438, z658437, f658425, rfl, rfl, hfr658445, he658444, he658441, he658442, he658443, (Nat.le_of_ble_eq_true rfl), (Nat.le_of_ble_eq_true rfl), ⟨by omega, by omega⟩, bf658425, (by have qa0 : Int32.toInt 0 = 0 := (by decide); omega), (sK_c x658426 (by omega)), (by assumption), (fun R c1 => c1 o658310 z658313 f658425 z658437 bo658310 ht658312 ez658313 ht658319 ht658428 ez658437)⟩
/- tr_RStringBuilder_append3: a.0...count, a.0.value.[] -/
def tr_RStringBuilder_append3 (a0_count : Int32) (a0_value_v : Nat → Int32) (a0_value_n : Nat) (a1_value_v : Nat → Int32) (a1_value_n : Nat) (o1 : Int32) (o2 : Nat → Int32) : Prop := ∀ R : (Int32) → (Nat → Int32) → Prop,
  (∀ (x1 : Int32) (x2 : Nat → Int32), gB x1 0 16777216 → tr_RAbstractStringBuilder_append3 a0_count a0_value_v a0_value_n a1_value_v a1_value_n x1 x2 → R x1 x2) →
  R o1 o2
