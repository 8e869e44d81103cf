theorem dr_cJ5_append_c97b9_0 : decode cJ5_append_c97b9 0 = .ok (.aload_n 0, 1) := by decide +kernel
theorem dr_cJ5_append_c97b9_1 : decode cJ5_append_c97b9 1 = .ok (.getfield 79, 3) := by decide +kernel
theorem dr_cJ5_append_c97b9_4 : decode cJ5_append_c97b9 4 = .ok (.istore_n 2, 1) := by decide +kernel
theorem dr_cJ5_append_c97b9_5 : decode cJ5_append_c97b9 5 = .ok (.iload_n 2, 1) := by decide +kernel
theorem dr_cJ5_append_c97b9_6 : decode cJ5_append_c97b9 6 = .ok (.iload_n 1, 1) := by decide +kernel
theorem dr_cJ5_append_c97b9_7 : decode cJ5_append_c97b9 7 = .ok (.invokestatic 245, 3) := by decide +kernel
theorem wr_8_112 : (Jvm.Cond.methodLink "java/lang/AbstractStringBuilder" (245 : Nat) ({ cls := "java/lang/Integer", name := "stringSize", desc := "(I)I" } : Jvm.MethodName)) ∈ gw := gw_8 112 rfl rfl
theorem wr_8_114 : (Jvm.Cond.code ({ cls := "java/lang/Integer", name := "stringSize", desc := "(I)I" } : Jvm.MethodName) prog_29_method_13_code (4 : Nat) (Option.some Jvm.ClassFile.FieldType.int)) ∈ gw := gw_8 114 rfl rfl
theorem wr_8_113 : (Jvm.Cond.static ({ cls := "java/lang/Integer", name := "stringSize", desc := "(I)I" } : Jvm.MethodName)) ∈ gw := gw_8 113 rfl rfl
theorem dr_cJ5_append_c97b9_10 : decode cJ5_append_c97b9 10 = .ok (.iadd, 1) := by decide +kernel
theorem dr_cJ5_append_c97b9_11 : decode cJ5_append_c97b9 11 = .ok (.istore_n 3, 1) := by decide +kernel
theorem dr_cJ5_append_c97b9_12 : decode cJ5_append_c97b9 12 = .ok (.aload_n 0, 1) := by decide +kernel
theorem dr_cJ5_append_c97b9_13 : decode cJ5_append_c97b9 13 = .ok (.iload_n 3, 1) := by decide +kernel
theorem dr_cJ5_append_c97b9_14 : decode cJ5_append_c97b9 14 = .ok (.invokevirtual 100, 3) := by decide +kernel
theorem dr_cJ5_append_c97b9_17 : decode cJ5_append_c97b9 17 = .ok (.aload_n 0, 1) := by decide +kernel
theorem dr_cJ5_append_c97b9_18 : decode cJ5_append_c97b9 18 = .ok (.invokevirtual 83, 3) := by decide +kernel
theorem dr_cJ5_append_c97b9_21 : decode cJ5_append_c97b9 21 = .ok (.ifCond .eq 16, 3) := by decide +kernel
theorem dr_cJ5_append_c97b9_24 : decode cJ5_append_c97b9 24 = .ok (.iload_n 1, 1) := by decide +kernel
theorem dr_cJ5_append_c97b9_25 : decode cJ5_append_c97b9 25 = .ok (.iload_n 3, 1) := by decide +kernel
theorem dr_cJ5_append_c97b9_26 : decode cJ5_append_c97b9 26 = .ok (.aload_n 0, 1) := by decide +kernel
theorem dr_cJ5_append_c97b9_27 : decode cJ5_append_c97b9 27 = .ok (.getfield 15, 3) := by decide +kernel
theorem dr_cJ5_append_c97b9_30 : decode cJ5_append_c97b9 30 = .ok (.invokestatic 248, 3) := by decide +kernel
theorem wr_8_115 : (Jvm.Cond.methodLink "java/lang/AbstractStringBuilder" (248 : Nat) ({ cls := "java/lang/Integer", name := "getChars", desc := "(II[B)I" } : Jvm.MethodName)) ∈ gw := gw_8 115 rfl rfl
theorem wr_8_117 : (Jvm.Cond.code ({ cls := "java/lang/Integer", name := "getChars", desc := "(II[B)I" } : Jvm.MethodName) prog_29_method_12_code (7 : Nat) (Option.some Jvm.ClassFile.FieldType.int)) ∈ gw := gw_8 117 rfl rfl
theorem wr_8_116 : (Jvm.Cond.static ({ cls := "java/lang/Integer", name := "getChars", desc := "(II[B)I" } : Jvm.MethodName)) ∈ gw := gw_8 116 rfl rfl
theorem dr_cJ5_append_c97b9_33 : decode cJ5_append_c97b9 33 = .ok (.pop, 1) := by decide +kernel
theorem dr_cJ5_append_c97b9_34 : decode cJ5_append_c97b9 34 = .ok (.goto 14, 3) := by decide +kernel
theorem dr_cJ5_append_c97b9_48 : decode cJ5_append_c97b9 48 = .ok (.aload_n 0, 1) := by decide +kernel
theorem dr_cJ5_append_c97b9_49 : decode cJ5_append_c97b9 49 = .ok (.iload_n 3, 1) := by decide +kernel
theorem dr_cJ5_append_c97b9_50 : decode cJ5_append_c97b9 50 = .ok (.putfield 79, 3) := by decide +kernel
theorem dr_cJ5_append_c97b9_53 : decode cJ5_append_c97b9 53 = .ok (.aload_n 0, 1) := by decide +kernel
theorem dr_cJ5_append_c97b9_54 : decode cJ5_append_c97b9 54 = .ok (.areturn, 1) := by decide +kernel
theorem dr_cJ4_append_bf812_0 : decode cJ4_append_bf812 0 = .ok (.aload_n 0, 1) := by decide +kernel
theorem dr_cJ4_append_bf812_1 : decode cJ4_append_bf812 1 = .ok (.iload_n 1, 1) := by decide +kernel
theorem dr_cJ4_append_bf812_2 : decode cJ4_append_bf812 2 = .ok (.invokespecial 53, 3) := by decide +kernel
theorem wr_8_109 : (Jvm.Cond.methodLink "java/lang/StringBuilder" (53 : Nat) ({ cls := "java/lang/AbstractStringBuilder", name := "append", desc := "(I)Ljava/lang/AbstractStringBuilder;" } : Jvm.MethodName)) ∈ gw := gw_8 109 rfl rfl
theorem wr_8_111 : (Jvm.Cond.code ({ cls := "java/lang/AbstractStringBuilder", name := "append", desc := "(I)Ljava/lang/AbstractStringBuilder;" } : Jvm.MethodName) prog_21_method_32_code (4 : Nat) (Option.some (Jvm.ClassFile.FieldType.object "java/lang/AbstractStringBuilder"))) ∈ gw := gw_8 111 rfl rfl
theorem wr_8_110 : (Jvm.Cond.instanceMethod ({ cls := "java/lang/AbstractStringBuilder", name := "append", desc := "(I)Ljava/lang/AbstractStringBuilder;" } : Jvm.MethodName)) ∈ gw := gw_8 110 rfl rfl
theorem wr_11_228 : (Jvm.Cond.sameMethod "java/lang/AbstractStringBuilder" "java/lang/AbstractStringBuilder" "append" "(I)Ljava/lang/AbstractStringBuilder;") ∈ gw := gw_11 228 rfl rfl
theorem dr_cJ4_append_bf812_5 : decode cJ4_append_bf812 5 = .ok (.pop, 1) := by decide +kernel
theorem dr_cJ4_append_bf812_6 : decode cJ4_append_bf812 6 = .ok (.aload_n 0, 1) := by decide +kernel
theorem dr_cJ4_append_bf812_7 : decode cJ4_append_bf812 7 = .ok (.areturn, 1) := by decide +kernel
theorem dr_cJ9_min_f86c9_0 : decode cJ9_min_f86c9 0 = .ok (.lload_n 0, 1) := by decide +kernel
theorem dr_cJ9_min_f86c9_1 : decode cJ9_min_f86c9 1 = .ok (.lload_n 2, 1) := by decide +kernel
theorem dr_cJ9_min_f86c9_2 : decode cJ9_min_f86c9 2 = .ok (.lcmp, 1) := by decide +kernel
theorem dr_cJ9_min_f86c9_3 : decode cJ9_min_f86c9 3 = .ok (.ifCond .gt 7, 3) := by decide +kernel
theorem dr_cJ9_min_f86c9_10 : decode cJ9_min_f86c9 10 = .ok (.lload_n 2, 1) := by decide +kernel
theorem dr_cJ9_min_f86c9_11 : decode cJ9_min_f86c9 11 = .ok (.lreturn, 1) := by decide +kernel
theorem dr_cJ9_min_f86c9_6 : decode cJ9_min_f86c9 6 = .ok (.lload_n 0, 1) := by decide +kernel
theorem dr_cJ9_min_f86c9_7 : decode cJ9_min_f86c9 7 = .ok (.goto 4, 3) := by decide +kernel
theorem dr_cX14_number_0 : decode cX14_number 0 = .ok (.iload_n 1, 1) := by decide +kernel
theorem dr_cX14_number_1 : decode cX14_number 1 = .ok (.ifCond .eq 13, 3) := by decide +kernel
theorem dr_cX14_number_14 : decode cX14_number 14 = .ok (.lconst 0, 1) := by decide +kernel
theorem dr_cX14_number_15 : decode cX14_number 15 = .ok (.lstore_n 2, 1) := by decide +kernel
theorem dr_cX14_number_16 : decode cX14_number 16 = .ok (.aload_n 0, 1) := by decide +kernel
theorem dr_cX14_number_17 : decode cX14_number 17 = .ok (.getfield 44, 3) := by decide +kernel
theorem wr_9_38 : (Jvm.Cond.fieldLink "SpillForgeModel$Reader" (44 : Nat) "SpillForgeModel$Reader" "at" "I") ∈ gw := gw_9 38 rfl rfl
theorem dr_cX14_number_20 : decode cX14_number 20 = .ok (.aload_n 0, 1) := by decide +kernel
theorem dr_cX14_number_21 : decode cX14_number 21 = .ok (.getfield 32, 3) := by decide +kernel
theorem wr_9_37 : (Jvm.Cond.fieldLink "SpillForgeModel$Reader" (32 : Nat) "SpillForgeModel$Reader" "n" "I") ∈ gw := gw_9 37 rfl rfl
theorem dr_cX14_number_24 : decode cX14_number 24 = .ok (.if_icmp .ge 58, 3) := by decide +kernel
theorem dr_cX14_number_82 : decode cX14_number 82 = .ok (.iload_n 1, 1) := by decide +kernel
theorem dr_cX14_number_83 : decode cX14_number 83 = .ok (.ifCond .eq 6, 3) := by decide +kernel
theorem dr_cX14_number_89 : decode cX14_number 89 = .ok (.aload_n 0, 1) := by decide +kernel
theorem dr_cX14_number_90 : decode cX14_number 90 = .ok (.lload_n 2, 1) := by decide +kernel
theorem dr_cX14_number_91 : decode cX14_number 91 = .ok (.l2i, 1) := by decide +kernel
theorem dr_cX14_number_92 : decode cX14_number 92 = .ok (.putfield 80, 3) := by decide +kernel
theorem wr_9_41 : (Jvm.Cond.fieldLink "SpillForgeModel$Reader" (80 : Nat) "SpillForgeModel$Reader" "value" "I") ∈ gw := gw_9 41 rfl rfl
theorem dr_cX14_number_95 : decode cX14_number 95 = .ok (.aload_n 0, 1) := by decide +kernel
theorem dr_cX14_number_96 : decode cX14_number 96 = .ok (.lload_n 2, 1) := by decide +kernel
theorem dr_cX14_number_97 : decode cX14_number 97 = .ok (.lload_n 2, 1) := by decide +kernel
theorem dr_cX14_number_98 : decode cX14_number 98 = .ok (.l2i, 1) := by decide +kernel
theorem dr_cX14_number_99 : decode cX14_number 99 = .ok (.i2l, 1) := by decide +kernel
theorem dr_cX14_number_100 : decode cX14_number 100 = .ok (.lcmp, 1) := by decide +kernel
theorem dr_cX14_number_101 : decode cX14_number 101 = .ok (.ifCond .ne 7, 3) := by decide +kernel
theorem dr_cX14_number_108 : decode cX14_number 108 = .ok (.bipush 6, 2) := by decide +kernel
theorem dr_cX14_number_110 : decode cX14_number 110 = .ok (.putfield 38, 3) := by decide +kernel
theorem wr_9_39 : (Jvm.Cond.fieldLink "SpillForgeModel$Reader" (38 : Nat) "SpillForgeModel$Reader" "kind" "I") ∈ gw := gw_9 39 rfl rfl
theorem dr_cX14_number_113 : decode cX14_number 113 = .ok (.return_, 1) := by decide +kernel
theorem dr_cX14_number_104 : decode cX14_number 104 = .ok (.iconst 4, 1) := by decide +kernel
theorem dr_cX14_number_105 : decode cX14_number 105 = .ok (.goto 5, 3) := by decide +kernel
theorem dr_cX14_number_27 : decode cX14_number 27 = .ok (.aload_n 0, 1) := by decide +kernel
theorem dr_cX14_number_28 : decode cX14_number 28 = .ok (.getfield 28, 3) := by decide +kernel
theorem wr_9_36 : (Jvm.Cond.fieldLink "SpillForgeModel$Reader" (28 : Nat) "SpillForgeModel$Reader" "t" "[B") ∈ gw := gw_9 36 rfl rfl
theorem dr_cX14_number_31 : decode cX14_number 31 = .ok (.aload_n 0, 1) := by decide +kernel
theorem dr_cX14_number_32 : decode cX14_number 32 = .ok (.getfield 44, 3) := by decide +kernel
theorem dr_cX14_number_35 : decode cX14_number 35 = .ok (.baload, 1) := by decide +kernel
theorem dr_cX14_number_36 : decode cX14_number 36 = .ok (.invokestatic 50, 3) := by decide +kernel
theorem wr_7_219 : (Jvm.Cond.methodLink "SpillForgeModel$Reader" (50 : Nat) ({ cls := "SpillForgeModel$Reader", name := "isDigit", desc := "(I)Z" } : Jvm.MethodName)) ∈ gw := gw_7 219 rfl rfl
theorem wr_1_32 : (Jvm.Cond.initialized "SpillForgeModel$Reader") ∈ gw := gw_1 32 rfl rfl
theorem wr_7_221 : (Jvm.Cond.code ({ cls := "SpillForgeModel$Reader", name := "isDigit", desc := "(I)Z" } : Jvm.MethodName) prog_17_method_2_code (1 : Nat) (Option.some Jvm.ClassFile.FieldType.boolean)) ∈ gw := gw_7 221 rfl rfl
theorem wr_7_220 : (Jvm.Cond.static ({ cls := "SpillForgeModel$Reader", name := "isDigit", desc := "(I)Z" } : Jvm.MethodName)) ∈ gw := gw_7 220 rfl rfl
theorem dr_cX14_number_39 : decode cX14_number 39 = .ok (.ifCond .eq 43, 3) := by decide +kernel
theorem dr_cX14_number_42 : decode cX14_number 42 = .ok (.lload_n 2, 1) := by decide +kernel
theorem dr_cX14_number_43 : decode cX14_number 43 = .ok (.ldc2_w 68, 3) := by decide +kernel
theorem wr_7_229 : (Jvm.Cond.constantLong "SpillForgeModel$Reader" (68 : Nat) (10 : Int64)) ∈ gw := gw_7 229 rfl rfl
theorem dr_cX14_number_46 : decode cX14_number 46 = .ok (.lmul, 1) := by decide +kernel
theorem dr_cX14_number_47 : decode cX14_number 47 = .ok (.aload_n 0, 1) := by decide +kernel
theorem dr_cX14_number_48 : decode cX14_number 48 = .ok (.getfield 28, 3) := by decide +kernel
theorem dr_cX14_number_51 : decode cX14_number 51 = .ok (.aload_n 0, 1) := by decide +kernel
theorem dr_cX14_number_52 : decode cX14_number 52 = .ok (.getfield 44, 3) := by decide +kernel
theorem dr_cX14_number_55 : decode cX14_number 55 = .ok (.baload, 1) := by decide +kernel
theorem dr_cX14_number_56 : decode cX14_number 56 = .ok (.i2l, 1) := by decide +kernel
theorem dr_cX14_number_57 : decode cX14_number 57 = .ok (.ladd, 1) := by decide +kernel
theorem dr_cX14_number_58 : decode cX14_number 58 = .ok (.ldc2_w 70, 3) := by decide +kernel
theorem wr_7_230 : (Jvm.Cond.constantLong "SpillForgeModel$Reader" (70 : Nat) (48 : Int64)) ∈ gw := gw_7 230 rfl rfl
theorem dr_cX14_number_61 : decode cX14_number 61 = .ok (.lsub, 1) := by decide +kernel
theorem dr_cX14_number_62 : decode cX14_number 62 = .ok (.ldc2_w 111, 3) := by decide +kernel
theorem wr_8_222 : (Jvm.Cond.constantLong "SpillForgeModel$Reader" (111 : Nat) (1099511627776 : Int64)) ∈ gw := gw_8 222 rfl rfl
theorem dr_cX14_number_65 : decode cX14_number 65 = .ok (.invokestatic 74, 3) := by decide +kernel
theorem wr_7_232 : (Jvm.Cond.methodLink "SpillForgeModel$Reader" (74 : Nat) ({ cls := "java/lang/Math", name := "min", desc := "(JJ)J" } : Jvm.MethodName)) ∈ gw := gw_7 232 rfl rfl
theorem wr_3_40 : (Jvm.Cond.code ({ cls := "java/lang/Math", name := "min", desc := "(JJ)J" } : Jvm.MethodName) prog_32_method_70_code (4 : Nat) (Option.some Jvm.ClassFile.FieldType.long)) ∈ gw := gw_3 40 rfl rfl
theorem wr_3_39 : (Jvm.Cond.static ({ cls := "java/lang/Math", name := "min", desc := "(JJ)J" } : Jvm.MethodName)) ∈ gw := gw_3 39 rfl rfl
theorem dr_cX14_number_68 : decode cX14_number 68 = .ok (.lstore_n 2, 1) := by decide +kernel
theorem dr_cX14_number_69 : decode cX14_number 69 = .ok (.aload_n 0, 1) := by decide +kernel
theorem dr_cX14_number_70 : decode cX14_number 70 = .ok (.dup, 1) := by decide +kernel
theorem dr_cX14_number_71 : decode cX14_number 71 = .ok (.getfield 44, 3) := by decide +kernel
theorem dr_cX14_number_74 : decode cX14_number 74 = .ok (.iconst 1, 1) := by decide +kernel
theorem dr_cX14_number_75 : decode cX14_number 75 = .ok (.iadd, 1) := by decide +kernel
theorem dr_cX14_number_76 : decode cX14_number 76 = .ok (.putfield 44, 3) := by decide +kernel
theorem dr_cX14_number_79 : decode cX14_number 79 = .ok (.goto (-63), 3) := by decide +kernel
theorem dr_cX14_number_4 : decode cX14_number 4 = .ok (.aload_n 0, 1) := by decide +kernel
theorem dr_cX14_number_5 : decode cX14_number 5 = .ok (.dup, 1) := by decide +kernel
theorem dr_cX14_number_6 : decode cX14_number 6 = .ok (.getfield 44, 3) := by decide +kernel
theorem dr_cX14_number_9 : decode cX14_number 9 = .ok (.iconst 1, 1) := by decide +kernel
theorem dr_cX14_number_10 : decode cX14_number 10 = .ok (.iadd, 1) := by decide +kernel
theorem dr_cX14_number_11 : decode cX14_number 11 = .ok (.putfield 44, 3) := by decide +kernel
theorem dr_cX14_number_86 : decode cX14_number 86 = .ok (.lload_n 2, 1) := by decide +kernel
theorem dr_cX14_number_87 : decode cX14_number 87 = .ok (.lneg, 1) := by decide +kernel
theorem dr_cX14_number_88 : decode cX14_number 88 = .ok (.lstore_n 2, 1) := by decide +kernel
abbrev ky_648927_AbstractStringBuilder_append : gKey := (cJ5_append_c97b9, 4, "java/lang/AbstractStringBuilder", (some (FieldType.object "java/lang/AbstractStringBuilder")), [], "append", fun _ _ => True)
def pp_648927_AbstractStringBuilder_append (D : va_G) (I : FieldType → ClassId) (P648915 : List Nat) (F648916 : Nat → va_E) (q648917 : Nat) (q648918 : Nat) (p648919 : Int32) (p648920 : Int32) (p648921 : Int32) (f648922 : Nat → Int32) (n648923 : Nat) : Option Value → va_W → Nat → Nat → Prop := fun r w dc ds => ∃ (P649524 : List Nat) (F649525 : Nat → va_E) (o649520 : Int32) (q649521 : Nat) (n649522 : Nat) (f649523 : Nat → Int32), r = some (.ref q648917) ∧ w = va_pl P649524 F649525 ∧ rSub P648915 P649524 ∧ rFr [q648917, q648918] P648915 F648916 F649525 ∧ F649525 q648917 = .inr (1, [.ref q649521, .int 0, .int p648920, .int o649520]) ∧ F649525 q649521 = .inl (I .byte, n649522, .inl f649523) ∧ q649521 ∈ P649524 ∧ (q649521 = q648918 ∨ q649521 ∉ P648915) ∧ dc ≤ 1 ∧ ds ≤ 2 * (n649522 - n648923) ∧ gB o649520 1 16777216 ∧ gF f649523 (-128) 127 ∧ p648921.toInt ≤ o649520.toInt ∧ o649520.toInt ≤ p648921.toInt + 11 ∧ o649520.toInt ≤ (n649522 : Int) ∧ (n648923 : Int) ≤ (n649522 : Int) ∧ ((n649522 : Int) ≤ 2 * (n648923 : Int) + 2 ∨ (n649522 : Int) ≤ p648921.toInt + 11)
set_option maxRecDepth 100000 in
set_option maxHeartbeats 4000000 in
theorem cp_648927_AbstractStringBuilder_append (l : Launch) (hl0 : l.stackTraces = false) (D : va_G) (I : FieldType → ClassId) (P648915 : List Nat) (F648916 : Nat → va_E) (q648917 : Nat) (q648918 : Nat) (p648919 : Int32) (p648920 : Int32) (p648921 : Int32) (f648922 : Nat → Int32) (n648923 : Nat) (hmq648917 : q648917 ∈ P648915) (hmq648918 : q648918 ∈ P648915) (heq648917 : F648916 q648917 = .inr (1, [.ref q648918, .int 0, .int p648920, .int p648921])) (heq648918 : F648916 q648918 = .inl (I .byte, n648923, .inl f648922)) (bp648920 : gB p648920 0 1) (bp648921 : gB p648921 0 16777216) (bf648922 : gF f648922 (-128) 127) (x648924 : (n648923 : Int) ≤ 8388608 - 100000) (x648925 : p648921.toInt ≤ (n648923 : Int)) (x648926 : ((n648923 : Int) ≤ 16777216)) : CtA (gV D I) l yJ5_append_c97b9 cJ5_append_c97b9 4 (some (FieldType.object "java/lang/AbstractStringBuilder")) 4 84 1 (4 * n648923 + 64) [.ref q648917, .int p648919] (va_pl P648915 F648916) (pp_648927_AbstractStringBuilder_append D I P648915 F648916 q648917 q648918 p648919 p648920 p648921 f648922 n648923) gNA := by
  refine CtA_ofF hl0 (by decide +kernel) (Nat.le_of_ble_eq_true rfl) ?_
  have bp648919 := gB_any p648919
  refine G_aload_n 0 dr_cJ5_append_c97b9_0 rfl ?_
  refine Gp_get 3 hmq648917 heq648917 dr_cJ5_append_c97b9_1 (gk_J4 D I) (Nat.le_of_ble_eq_true rfl) wr_7_64 rfl ?_
  refine G_istore_n (L' := [(2, .int p648921), (0, .ref q648917), (1, .int p648919)]) dr_cJ5_append_c97b9_4 (Nat.le_of_ble_eq_true rfl) rfl ?_
  refine G_iload_n 0 dr_cJ5_append_c97b9_5 rfl ?_
  refine G_iload_n 2 dr_cJ5_append_c97b9_6 rfl ?_
  refine Gw_callS (As := [.int p648919]) (gV_ok D I) (cp_648931_Integer_stringSize l hl0 D I P648915 F648916 p648919 ) dr_cJ5_append_c97b9_7 ⟨wr_8_112, wr_1_35, wr_8_114, by decide, rfl, (Nat.le_of_ble_eq_true rfl), (Nat.le_of_ble_eq_true rfl)⟩ wr_8_113 (show 0 + 0 ≤ 1 by first | omega | decide) (show 0 + 0 ≤ (4 * n648923 + 64) by first | omega | decide) (Nat.le_of_ble_eq_true rfl) (fun r649062 w649063 dc649059 ds649060 hp649061 => ?_) (fun _ _ _ _ _ z => z.elim)
  obtain ⟨o649064, rfl, rfl, hdc, hds, bo649064, x649065⟩ := hp649061
  change G _ _ _ _ _ _ _ (.int o649064 :: _) _ _ _
  refine G_widen (cs' := 0) (sl' := 0) (by omega) (by omega) ?_
  refine G_iadd dr_cJ5_append_c97b9_10 (G_nam fun z649066 hz649066 => ?_)
  have ez649066 : z649066.toInt = p648921.toInt + o649064.toInt := by rw [gI_add hz649066 bp648921 bo649064 (by decide) (by decide)]
  have bz649066 : gB z649066 1 16777227 := gB_add (gI_add hz649066 bp648921 bo649064 (by decide) (by decide)) bp648921 bo649064 (by decide) (by decide)
  refine G_istore_n (L' := [(3, .int z649066), (2, .int p648921), (0, .ref q648917), (1, .int p648919)]) dr_cJ5_append_c97b9_11 (Nat.le_of_ble_eq_true rfl) rfl ?_
  refine G_aload_n 2 dr_cJ5_append_c97b9_12 rfl ?_
  refine G_iload_n 0 dr_cJ5_append_c97b9_13 rfl ?_
  refine Gw_callVB (As := [.int z649066]) (gV_ok D I) (cp_640241_AbstractStringBuilder_ensureCapacityInternal l hl0 D I P648915 F648916 q648917 q648918 z649066 p648920 p648921 f648922 n648923 hmq648917 hmq648918 heq648917 heq648918 ⟨by omega, by omega⟩ bp648920 bp648921 bf648922 (by have qa0 : Int32.toInt 0 = 0 := (by decide); omega) (by have qa0 : Int32.toInt 0 = 0 := (by decide); omega)) dr_cJ5_append_c97b9_14 ⟨wr_8_4, wr_1_19, wr_8_7, by decide, rfl, (Nat.le_of_ble_eq_true rfl), (Nat.le_of_ble_eq_true rfl)⟩ wr_8_6 wr_s_0 hmq648917 heq648917 rfl (show 0 + 1 ≤ 1 by first | omega | decide) (show 0 + (2 * n648923 + 2 + z649066.toInt.toNat) ≤ (4 * n648923 + 64) by first | omega | decide) (Nat.le_of_ble_eq_true rfl) (fun r649070 w649071 dc649067 ds649068 hp649069 => ?_) (fun _ _ _ _ _ z => z.elim)
  obtain ⟨P649079, F649080, q649072, n649073, f649074, rfl, rfl, hsb649081, hfr649082, he649083, he649084, hm649085, hq649086, hdc, hds, bf649074, x649075, x649076, x649077, x649078⟩ := hp649069
  have hm649087 : q648917 ∈ P649079 := hsb649081 q648917 hmq648917
  have hm649088 : q648918 ∈ P649079 := hsb649081 q648918 hmq648918
  have hor649089 : q649072 = q648918 ∨ q649072 ∉ P648915 := hq649086.elim Or.inl (fun n => Or.inr (fun z => n ((rSub_rf (P := P648915)) _ z)))
  have hsb649090 : rSub P648915 P649079 := rSub_tr (rSub_rf (P := P648915)) hsb649081
  have he649091 : F649080 q648918 = .inl (I .byte, n648923, .inl f648922) := (hfr649082 q648918 hmq648918 (nm_c (rn_ao heq648918 heq648917) nm_n)).trans heq648918
  have hfr649092 : rFr [q648917] P648915 F648916 F649080 := rFr_call (rSub_rf (P := P648915)) (rFr_rf (W := []) (P := P648915) (F := F648916)) hfr649082 (fun b hb hn => ⟨nm_n, (nm_c (fun e => hn (e ▸ List.mem_cons_self)) nm_n)⟩)
  change G _ _ _ _ _ _ _ _ _ _ _
  refine G_widen (cs' := 1) (sl' := 2 * (n649073 - n648923)) (by omega) (by omega) ?_
  refine G_aload_n 2 dr_cJ5_append_c97b9_17 rfl ?_
  refine Gw_callVB (As := []) (gV_ok D I) (cp_640145_AbstractStringBuilder_isLatin1 l hl0 D I P649079 F649080 q648917 q649072 p648920 p648921 f649074 n649073 hm649087 hm649085 he649083 he649084 bp648920 bp648921 bf649074 (by have qa0 : Int32.toInt 0 = 0 := (by decide); omega)) dr_cJ5_append_c97b9_18 ⟨wr_8_33, wr_1_19, wr_8_37, by decide, rfl, (Nat.le_of_ble_eq_true rfl), (Nat.le_of_ble_eq_true rfl)⟩ wr_8_34 wr_8_36 hm649087 he649083 rfl (show 1 + 0 ≤ 1 by first | omega | decide) (show 2 * (n649073 - n648923) + 0 ≤ (4 * n648923 + 64) by first | omega | decide) (Nat.le_of_ble_eq_true rfl) (fun r649096 w649097 dc649093 ds649094 hp649095 => ?_) (fun _ _ _ _ _ z => z.elim)
  obtain ⟨rfl, rfl, hdc, hds⟩ := hp649095
  change G _ _ _ _ _ _ _ (.int 1 :: _) _ _ _
  refine G_widen (cs' := 1) (sl' := 2 * (n649073 - n648923) + 0) (by omega) (by omega) ?_
  refine G_if_eq 37 dr_cJ5_append_c97b9_21 (by decide +kernel) (fun hc => absurd hc (by decide)) (fun _ => ?_)
  refine G_iload_n 3 dr_cJ5_append_c97b9_24 rfl ?_
  refine G_iload_n 0 dr_cJ5_append_c97b9_25 rfl ?_
  refine G_aload_n 2 dr_cJ5_append_c97b9_26 rfl ?_
  refine Gp_get 0 hm649087 he649083 dr_cJ5_append_c97b9_27 (gk_J4 D I) (Nat.le_of_ble_eq_true rfl) wr_7_60 rfl ?_
  refine Gw_callS (As := [.int p648919, .int z649066, .ref q649072]) (gV_ok D I) (cp_649108_Integer_getChars l hl0 D I P649079 F649080 q649072 p648919 z649066 f649074 n649073 hm649085 he649084 ⟨by omega, by omega⟩ bf649074 (by have qa0 : Int32.toInt 0 = 0 := (by decide); omega) (by have q10 : Int32.toInt 10 = 10 := (by decide); have q11 : Int32.toInt 11 = 11 := (by decide); first | exact dgS_up (by omega) (by omega) x649065 (by omega)) (by have qa0 : Int32.toInt 0 = 0 := (by decide); omega)) dr_cJ5_append_c97b9_30 ⟨wr_8_115, wr_1_35, wr_8_117, by decide, rfl, (Nat.le_of_ble_eq_true rfl), (Nat.le_of_ble_eq_true rfl)⟩ wr_8_116 (show 1 + 0 ≤ 1 by first | omega | decide) (show 2 * (n649073 - n648923) + 0 + 0 ≤ (4 * n648923 + 64) by first | omega | decide) (Nat.le_of_ble_eq_true rfl) (fun r649504 w649505 dc649501 ds649502 hp649503 => ?_) (fun _ _ _ _ _ z => z.elim)
  obtain ⟨F649508, o649506, f649507, rfl, rfl, hfr649510, he649511, hdc, hds, bo649506, bf649507⟩ := hp649503
  have he649512 : F649508 q648917 = .inr (1, [.ref q649072, .int 0, .int p648920, .int p648921]) := (hfr649510 q648917 hm649087 (nm_c (rn_oa he649083 he649084) nm_n)).trans he649083
  have hfr649513 : rFr [q648917, q648918] P648915 F648916 F649508 := rFr_call hsb649090 hfr649092 hfr649510 (fun b hb hn => ⟨(nm_c (fun e => hn (e ▸ List.mem_cons_self)) nm_n), (nm_c (fun e => hor649089.elim (fun e2 => hn ((e.trans e2) ▸ (List.mem_cons_of_mem _ List.mem_cons_self))) (fun n => n (e ▸ hb))) nm_n)⟩)
  change G _ _ _ _ _ _ _ (.int o649506 :: _) _ _ _
  refine G_widen (cs' := 1) (sl' := 2 * (n649073 - n648923) + 0 + 0) (by omega) (by omega) ?_
  refine G_pop dr_cJ5_append_c97b9_33 rfl ?_
  refine G_goto 48 dr_cJ5_append_c97b9_34 (by decide +kernel) ?_
  refine G_aload_n 2 dr_cJ5_append_c97b9_48 rfl ?_
  refine G_iload_n 0 dr_cJ5_append_c97b9_49 rfl ?_
  refine Gp_put 3 hm649087 he649512 dr_cJ5_append_c97b9_50 (gk_J4 D I) (Nat.le_of_ble_eq_true rfl) wr_7_64 rfl rfl rfl (Nat.le_of_ble_eq_true rfl) (fun F649514 e649515 n649516 => ?_)
  have he649517 : F649514 q649072 = .inl (I .byte, n649073, .inl f649507) := (n649516 q649072 (rn_ao he649511 he649512)).trans he649511
  have he649518 : F649514 q648917 = .inr (1, [.ref q649072, .int 0, .int p648920, .int z649066]) := e649515
  have hfr649519 : rFr [q648917, q648918] P648915 F648916 F649514 := rFr_put' List.mem_cons_self hfr649513 n649516
  refine G_aload_n 2 dr_cJ5_append_c97b9_53 rfl ?_
  exact G_aretA (FieldType.object "java/lang/AbstractStringBuilder") dr_cJ5_append_c97b9_54 rfl (by first | exact Or.inl ⟨_, rfl⟩ | exact Or.inr ⟨_, rfl⟩) (Or.inr ⟨_, rfl⟩) (Nat.le_of_ble_eq_true rfl) (show 2 * (n649073 - n648923) + 0 + 0 ≤ (4 * n648923 + 64) by omega) ⟨P649079, F649514, z649066, q649072, n649073, f649507, rfl, rfl, hsb649090, hfr649519, he649518, he649517, hm649085, hor649089, (Nat.le_of_ble_eq_true rfl), (by omega), ⟨by omega, by omega⟩, bf649507, (by have qa0 : Int32.toInt 0 = 0 := (by decide); omega), (by have qa0 : Int32.toInt 0 = 0 := (by decide); omega), (by have qa0 : Int32.toInt 0 = 0 := (by decide); omega), (by have qa0 : Int32.toInt 0 = 0 := (by decide); omega), (by have qa0 : Int32.toInt 0 = 0 := (by decide); omega)⟩
abbrev ky_648914_StringBuilder_append : gKey := (cJ4_append_bf812, 2, "java/lang/StringBuilder", (some (FieldType.object "java/lang/StringBuilder")), [], "append", fun _ _ => True)
def pp_648914_StringBuilder_append (D : va_G) (I : FieldType → ClassId) (P648902 : List Nat) (F648903 : Nat → va_E) (q648904 : Nat) (q648905 : Nat) (p648906 : Int32) (p648907 : Int32) (p648908 : Int32) (f648909 : Nat → Int32) (n648910 : Nat) : Option Value → va_W → Nat → Nat → Prop := fun r w dc ds => ∃ (P649557 : List Nat) (F649558 : Nat → va_E) (o649553 : Int32) (q649554 : Nat) (n649555 : Nat) (f649556 : Nat → Int32), r = some (.ref q648904) ∧ w = va_pl P649557 F649558 ∧ rSub P648902 P649557 ∧ rFr [q648904, q648905] P648902 F648903 F649558 ∧ F649558 q648904 = .inr (1, [.ref q649554, .int 0, .int p648907, .int o649553]) ∧ F649558 q649554 = .inl (I .byte, n649555, .inl f649556) ∧ q649554 ∈ P649557 ∧ (q649554 = q648905 ∨ q649554 ∉ P648902) ∧ dc ≤ 1 ∧ ds ≤ 2 * (n649555 - n648910) ∧ gB o649553 1 16777216 ∧ gF f649556 (-128) 127 ∧ p648908.toInt ≤ o649553.toInt ∧ o649553.toInt ≤ p648908.toInt + 11 ∧ o649553.toInt ≤ (n649555 : Int) ∧ (n648910 : Int) ≤ (n649555 : Int) ∧ ((n649555 : Int) ≤ 2 * (n648910 : Int) + 2 ∨ (n649555 : Int) ≤ p648908.toInt + 11)
set_option maxRecDepth 100000 in
set_option maxHeartbeats 4000000 in
theorem cp_648914_StringBuilder_append (l : Launch) (hl0 : l.stackTraces = false) (D : va_G) (I : FieldType → ClassId) (P648902 : List Nat) (F648903 : Nat → va_E) (q648904 : Nat) (q648905 : Nat) (p648906 : Int32) (p648907 : Int32) (p648908 : Int32) (f648909 : Nat → Int32) (n648910 : Nat) (hmq648904 : q648904 ∈ P648902) (hmq648905 : q648905 ∈ P648902) (heq648904 : F648903 q648904 = .inr (1, [.ref q648905, .int 0, .int p648907, .int p648908])) (heq648905 : F648903 q648905 = .inl (I .byte, n648910, .inl f648909)) (bp648907 : gB p648907 0 1) (bp648908 : gB p648908 0 16777216) (bf648909 : gF f648909 (-128) 127) (x648911 : (n648910 : Int) ≤ 8388608 - 100000) (x648912 : p648908.toInt ≤ (n648910 : Int)) (x648913 : ((n648910 : Int) ≤ 16777216)) : CtA (gV D I) l yJ4_append_bf812 cJ4_append_bf812 2 (some (FieldType.object "java/lang/StringBuilder")) 5 107 1 (4 * n648910 + 64) [.ref q648904, .int p648906] (va_pl P648902 F648903) (pp_648914_StringBuilder_append D I P648902 F648903 q648904 q648905 p648906 p648907 p648908 f648909 n648910) gNA := by
  refine CtA_ofF hl0 (by decide +kernel) (Nat.le_of_ble_eq_true rfl) ?_
  have bp648906 := gB_any p648906
  refine G_aload_n 0 dr_cJ4_append_bf812_0 rfl ?_
  refine G_iload_n 1 dr_cJ4_append_bf812_1 rfl ?_
  refine Gw_callSU (As := [.int p648906]) (gV_ok D I) (cp_648927_AbstractStringBuilder_append l hl0 D I P648902 F648903 q648904 q648905 p648906 p648907 p648908 f648909 n648910 hmq648904 hmq648905 heq648904 heq648905 bp648907 bp648908 bf648909 (by have qa0 : Int32.toInt 0 = 0 := (by decide); omega) (by have qa0 : Int32.toInt 0 = 0 := (by decide); omega) (by have qa0 : Int32.toInt 0 = 0 := (by decide); omega)) dr_cJ4_append_bf812_2 ⟨wr_8_109, wr_1_19, wr_8_111, by decide, rfl, (Nat.le_of_ble_eq_true rfl), (Nat.le_of_ble_eq_true rfl)⟩ wr_8_110 wr_11_228 wr_7_73 wr_7_44 (by decide) hmq648904 heq648904 rfl (show 0 + 1 ≤ 1 by first | omega | decide) (show 0 + (4 * n648910 + 64) ≤ (4 * n648910 + 64) by first | omega | decide) (Nat.le_of_ble_eq_true rfl) (fun r649529 w649530 dc649526 ds649527 hp649528 => ?_)
  obtain ⟨P649540, F649541, o649531, q649532, n649533, f649534, rfl, rfl, hsb649542, hfr649543, he649544, he649545, hm649546, hq649547, hdc, hds, bo649531, bf649534, x649535, x649536, x649537, x649538, x649539⟩ := hp649528
  have hm649548 : q648904 ∈ P649540 := hsb649542 q648904 hmq648904
  have hm649549 : q648905 ∈ P649540 := hsb649542 q648905 hmq648905
  have hor649550 : q649532 = q648905 ∨ q649532 ∉ P648902 := hq649547.elim Or.inl (fun n => Or.inr (fun z => n ((rSub_rf (P := P648902)) _ z)))
  have hsb649551 : rSub P648902 P649540 := rSub_tr (rSub_rf (P := P648902)) hsb649542
  have hfr649552 : rFr [q648904, q648905] P648902 F648903 F649541 := rFr_call (rSub_rf (P := P648902)) (rFr_rf (W := []) (P := P648902) (F := F648903)) hfr649543 (fun b hb hn => ⟨nm_n, (nm_c (fun e => hn (e ▸ List.mem_cons_self)) (nm_c (fun e => hn (e ▸ (List.mem_cons_of_mem _ List.mem_cons_self))) nm_n))⟩)
  change G _ _ _ _ _ _ _ (.ref q648904 :: _) _ _ _
  refine G_widen (cs' := 1) (sl' := 2 * (n649533 - n648910)) (by omega) (by omega) ?_
  refine G_pop dr_cJ4_append_bf812_5 rfl ?_
  refine G_aload_n 0 dr_cJ4_append_bf812_6 rfl ?_
  exact G_aretA (FieldType.object "java/lang/StringBuilder") dr_cJ4_append_bf812_7 rfl (by first | exact Or.inl ⟨_, rfl⟩ | exact Or.inr ⟨_, rfl⟩) (Or.inr ⟨_, rfl⟩) (Nat.le_of_ble_eq_true rfl) (show 2 * (n649533 - n648910) ≤ (4 * n648910 + 64) by omega) ⟨P649540, F649541, o649531, q649532, n649533, f649534, rfl, rfl, hsb649551, hfr649552, he649544, he649545, hm649546, hor649550, (Nat.le_of_ble_eq_true rfl), (by omega), bo649531, bf649534, (by have qa0 : Int32.toInt 0 = 0 := (by decide); omega), (by have qa0 : Int32.toInt 0 = 0 := (by decide); omega), (by have qa0 : Int32.toInt 0 = 0 := (by decide); omega), (by have qa0 : Int32.toInt 0 = 0 := (by decide); omega), (by have qa0 : Int32.toInt 0 = 0 := (by decide); omega)⟩
abbrev ky_649619_Reader_isDigit : gKey := (cX14_isDigit, 1, "SpillForgeModel$Reader", (some FieldType.boolean), [], "isDigit", fun _ _ => True)
def pp_649619_Reader_isDigit (D : va_G) (I : FieldType → ClassId) (P649616 : List Nat) (F649617 : Nat → va_E) (p649618 : Int32) : Option Value → va_W → Nat → Nat → Prop := fun r w dc ds => ∃ (o649626 : Int32), r = some (.int o649626) ∧ w = va_pl P649616 F649617 ∧ dc ≤ 0 ∧ ds ≤ 0 ∧ gB o649626 0 1 ∧ isP p649618 48 57 o649626
set_option maxRecDepth 100000 in
set_option maxHeartbeats 4000000 in
theorem cp_649619_Reader_isDigit (l : Launch) (hl0 : l.stackTraces = false) (D : va_G) (I : FieldType → ClassId) (P649616 : List Nat) (F649617 : Nat → va_E) (p649618 : Int32)  : CtA (gV D I) l yX14_isDigit cX14_isDigit 1 (some FieldType.boolean) 0 0 0 0 [.int p649618] (va_pl P649616 F649617) (pp_649619_Reader_isDigit D I P649616 F649617 p649618) gNA := by
  refine CtA_of hl0 (by decide) (Nat.le_of_ble_eq_true rfl) ?_
  have bp649618 := gB_any p649618
  refine G_iload_n 0 dr_cX14_isDigit_0 rfl ?_
  refine G_bipush 48 dr_cX14_isDigit_1 (by decide +kernel) ?_
  refine G_icmp_lt 16 dr_cX14_isDigit_3 (by decide +kernel) (fun hc649620 => ?_) (fun hc649620 => ?_)
  · have r649621 : p649618.toInt < 48 := gj_lt hc649620 (show Int32.toInt 48 = 48 by decide)
    have bp649618' : gB p649618 (-2147483648) 47 := ⟨by omega, by omega⟩
    refine G_iconst 0 dr_cX14_isDigit_16 (by decide +kernel) ?_
    exact G_zretA FieldType.boolean dr_cX14_isDigit_17 rfl rfl (Nat.le_of_ble_eq_true rfl) (Nat.le_of_ble_eq_true rfl) ⟨0, rfl, rfl, (Nat.le_of_ble_eq_true rfl), (Nat.le_of_ble_eq_true rfl), (gB_w (gBl (show Int32.toInt 0 = 0 by decide)) (by decide) (by decide)), (isP_n (by omega))⟩
  · have r649622 : 48 ≤ p649618.toInt := gj_nlt hc649620 (show Int32.toInt 48 = 48 by decide)
    have bp649618' : gB p649618 48 2147483647 := ⟨by omega, by omega⟩
    refine G_iload_n 0 dr_cX14_isDigit_6 rfl ?_
    refine G_bipush 57 dr_cX14_isDigit_7 (by decide +kernel) ?_
    refine G_icmp_gt 16 dr_cX14_isDigit_9 (by decide +kernel) (fun hc649623 => ?_) (fun hc649623 => ?_)
    · have r649624 : 57 < p649618.toInt := gj_ltL hc649623 (show Int32.toInt 57 = 57 by decide)
      have bp649618'' : gB p649618 58 2147483647 := ⟨by omega, by omega⟩
      refine G_iconst 0 dr_cX14_isDigit_16 (by decide +kernel) ?_
      exact G_zretA FieldType.boolean dr_cX14_isDigit_17 rfl rfl (Nat.le_of_ble_eq_true rfl) (Nat.le_of_ble_eq_true rfl) ⟨0, rfl, rfl, (Nat.le_of_ble_eq_true rfl), (Nat.le_of_ble_eq_true rfl), (gB_w (gBl (show Int32.toInt 0 = 0 by decide)) (by decide) (by decide)), (isP_n (by omega))⟩
    · have r649625 : p649618.toInt ≤ 57 := gj_nltL hc649623 (show Int32.toInt 57 = 57 by decide)
      have bp649618'' : gB p649618 48 57 := ⟨by omega, by omega⟩
      refine G_iconst 1 dr_cX14_isDigit_12 (by decide +kernel) ?_
      refine G_goto 17 dr_cX14_isDigit_13 (by decide +kernel) ?_
      exact G_zretA FieldType.boolean dr_cX14_isDigit_17 rfl rfl (Nat.le_of_ble_eq_true rfl) (Nat.le_of_ble_eq_true rfl) ⟨1, rfl, rfl, (Nat.le_of_ble_eq_true rfl), (Nat.le_of_ble_eq_true rfl), (gB_w (gBl (show Int32.toInt 1 = 1 by decide)) (by decide) (by decide)), (isP_y (by omega) (by omega))⟩
abbrev ky_649672_Math_min : gKey := (cJ9_min_f86c9, 4, "java/lang/Math", (some FieldType.long), [], "min", fun _ _ => True)
def pp_649672_Math_min (D : va_G) (I : FieldType → ClassId) (P649668 : List Nat) (F649669 : Nat → va_E) (pl649670 : Int64) (pl649671 : Int64) : Option Value → va_W → Nat → Nat → Prop := fun r w dc ds => ∃ (ol649677 : Int64), r = some (.long ol649677) ∧ w = va_pl P649668 F649669 ∧ dc ≤ 0 ∧ ds ≤ 0 ∧ lmP pl649670 pl649671 ol649677
set_option maxRecDepth 100000 in
set_option maxHeartbeats 4000000 in
theorem cp_649672_Math_min (l : Launch) (hl0 : l.stackTraces = false) (D : va_G) (I : FieldType → ClassId) (P649668 : List Nat) (F649669 : Nat → va_E) (pl649670 : Int64) (pl649671 : Int64)  : CtA (gV D I) l yJ9_min_f86c9 cJ9_min_f86c9 4 (some FieldType.long) 0 0 0 0 [.long pl649670, .long pl649671] (va_pl P649668 F649669) (pp_649672_Math_min D I P649668 F649669 pl649670 pl649671) gNA := by
  refine CtA_ofF hl0 (by decide +kernel) (Nat.le_of_ble_eq_true rfl) ?_
  refine G_lload_n 0 dr_cJ9_min_f86c9_0 rfl ?_
  refine G_lload_n 1 dr_cJ9_min_f86c9_1 rfl ?_
  refine G_lcmp dr_cJ9_min_f86c9_2 (G_nam fun z649673 hz649673 => ?_)
  have bz649673 : gB z649673 (-1) 1 := gB_cmp hz649673
  refine G_if_gt 10 dr_cJ9_min_f86c9_3 (by decide +kernel) (fun hc649674 => ?_) (fun hc649674 => ?_)
  · have r649675 : 0 < z649673.toInt := gj_ltL hc649674 (show Int32.toInt 0 = 0 by decide)
    have bz649673' : gB z649673 1 1 := ⟨by omega, by omega⟩
    have lhc649674 := gC_cmpS hz649673 (by omega)
    refine G_lload_n 1 dr_cJ9_min_f86c9_10 rfl ?_
    exact G_lretA dr_cJ9_min_f86c9_11 rfl (Nat.le_of_ble_eq_true rfl) (Nat.le_of_ble_eq_true rfl) ⟨pl649671, rfl, rfl, (Nat.le_of_ble_eq_true rfl), (Nat.le_of_ble_eq_true rfl), (by first | exact lm_r | exact lm_l (by assumption) (by omega))⟩
  · have r649676 : z649673.toInt ≤ 0 := gj_nltL hc649674 (show Int32.toInt 0 = 0 by decide)
    have bz649673' : gB z649673 (-1) 0 := ⟨by omega, by omega⟩
    refine G_lload_n 0 dr_cJ9_min_f86c9_6 rfl ?_
    refine G_goto 11 dr_cJ9_min_f86c9_7 (by decide +kernel) ?_
    exact G_lretA dr_cJ9_min_f86c9_11 rfl (Nat.le_of_ble_eq_true rfl) (Nat.le_of_ble_eq_true rfl) ⟨pl649670, rfl, rfl, (Nat.le_of_ble_eq_true rfl), (Nat.le_of_ble_eq_true rfl), (by first | exact lm_r | exact lm_l (by assumption) (by omega))⟩
abbrev ky_649583_Reader_number : gKey := (cX14_number, 4, "SpillForgeModel$Reader", none, [], "number", fun _ _ => True)
def pp_649583_Reader_number (D : va_G) (I : FieldType → ClassId) (P649559 : List Nat) (F649560 : Nat → va_E) (q649561 : Nat) (q649562 : Nat) (p649563 : Int32) (p649564 : Int32) (p649565 : Int32) (p649566 : Int32) (p649567 : Int32) (p649568 : Int32) (p649569 : Int32) (qo649570 : Nat) (p649571 : Int32) (p649572 : Int32) (p649573 : Int32) (qo649574 : Nat) (qo649575 : Nat) (p649576 : Int32) (f649577 : Nat → Int32) : Option Value → va_W → Nat → Nat → Prop := fun r w dc ds => ∃ (F650165 : Nat → va_E) (o650161 : Int32) (o650162 : Int32) (o650163 : Int32), r = none ∧ w = va_pl P649559 F650165 ∧ rFr [q649561] P649559 F649560 F650165 ∧ F650165 q649561 = .inr (19, [.ref q649562, .int p649564, .int o650161, .int o650162, .int p649567, .int o650163, .int p649569, .ref qo649570, .int p649571, .int p649572, .int p649573, .ref qo649574, .ref qo649575, .int p649576]) ∧ F650165 q649562 = .inl (I .byte, 8192, .inl f649577) ∧ dc ≤ (16 * (o650161.toInt - p649565.toInt)).toNat ∧ ds ≤ (256 * (o650161.toInt - p649565.toInt)).toNat ∧ gB o650161 0 8192 ∧ gB o650162 4 6 ∧ p649565.toInt < o650161.toInt ∧ o650161.toInt ≤ p649564.toInt ∧ tP I P649559 F650165 o650162 qo649570 qo649575 qo649574 ∧ vP o650162 o650163
set_option maxRecDepth 100000 in
set_option maxHeartbeats 4000000 in
theorem cp_649583_Reader_number (l : Launch) (hl0 : l.stackTraces = false) (D : va_G) (I : FieldType → ClassId) (P649559 : List Nat) (F649560 : Nat → va_E) (q649561 : Nat) (q649562 : Nat) (p649563 : Int32) (p649564 : Int32) (p649565 : Int32) (p649566 : Int32) (p649567 : Int32) (p649568 : Int32) (p649569 : Int32) (qo649570 : Nat) (p649571 : Int32) (p649572 : Int32) (p649573 : Int32) (qo649574 : Nat) (qo649575 : Nat) (p649576 : Int32) (f649577 : Nat → Int32) (hmq649561 : q649561 ∈ P649559) (hmq649562 : q649562 ∈ P649559) (heq649561 : F649560 q649561 = .inr (19, [.ref q649562, .int p649564, .int p649565, .int p649566, .int p649567, .int p649568, .int p649569, .ref qo649570, .int p649571, .int p649572, .int p649573, .ref qo649574, .ref qo649575, .int p649576])) (heq649562 : F649560 q649562 = .inl (I .byte, 8192, .inl f649577)) (bp649563 : gB p649563 0 1) (bp649564 : gB p649564 0 8192) (bp649565 : gB p649565 0 8192) (bp649566 : gB p649566 0 6) (bp649567 : gB p649567 0 8192) (bp649569 : gB p649569 0 6) (bp649571 : gB p649571 (-1) 8192) (bp649572 : gB p649572 0 4) (bp649573 : gB p649573 0 1000000) (bp649576 : gB p649576 0 1000000) (bf649577 : gF f649577 (-128) 127) (x649578 : p649565.toInt ≤ p649564.toInt) (x649579 : p649565.toInt < p649564.toInt) (x649580 : cDg f649577 p649565 p649563) (x649581 : qo649575 ∈ P649559) (x649582 : qo649574 ∈ P649559) : CtA (gV D I) l yX14_number cX14_number 4 none 1 23 ((16 * (p649564.toInt - p649565.toInt)).toNat) ((256 * (p649564.toInt - p649565.toInt)).toNat) [.ref q649561, .int p649563] (va_pl P649559 F649560) (pp_649583_Reader_number D I P649559 F649560 q649561 q649562 p649563 p649564 p649565 p649566 p649567 p649568 p649569 qo649570 p649571 p649572 p649573 qo649574 qo649575 p649576 f649577) gNA := by
  refine CtA_of hl0 (by decide) (Nat.le_of_ble_eq_true rfl) ?_
  have bp649568 := gB_any p649568
  refine G_iload_n 1 dr_cX14_number_0 rfl ?_
  refine G_if_eq 14 dr_cX14_number_1 (by decide +kernel) (fun hc649584 => ?_) (fun hc649584 => ?_)
  · have r649585 : p649563.toInt = 0 := gj_eq hc649584 (show Int32.toInt 0 = 0 by decide)
    have bp649563' : gB p649563 0 0 := ⟨by omega, by omega⟩
    refine G_lconst 0 dr_cX14_number_14 rfl ?_
    refine G_lstore_n (L' := [(2, .long 0), (0, .ref q649561), (1, .int p649563)]) dr_cX14_number_15 (Nat.le_of_ble_eq_true rfl) rfl ?_
    have hlp16_649791 : ∀ (n16_649791 : Nat) (F649785 : Nat → va_E) (gl649783 : Int64) (g649784 : Int32), gB g649784 0 8192 → rFr [q649561] P649559 F649560 F649785 → F649785 q649561 = .inr (19, [.ref q649562, .int p649564, .int g649784, .int p649566, .int p649567, .int p649568, .int p649569, .ref qo649570, .int p649571, .int p649572, .int p649573, .ref qo649574, .ref qo649575, .int p649576]) → F649785 q649562 = .inl (I .byte, 8192, .inl f649577) → p649565.toInt ≤ g649784.toInt → g649784.toInt ≤ p649564.toInt → (p649563.toInt = 0 ∨ p649565.toInt < g649784.toInt) → ((8193 : Int) - g649784.toInt).toNat < n16_649791 → G (gV D I) l (gRm 1 23 ((16 * (p649564.toInt - p649565.toInt)).toNat) ((256 * (p649564.toInt - p649565.toInt)).toNat)) (gMA (gV D I) (pp_649583_Reader_number D I P649559 F649560 q649561 q649562 p649563 p649564 p649565 p649566 p649567 p649568 p649569 qo649570 p649571 p649572 p649573 qo649574 qo649575 p649576 f649577) gNA ((16 * (p649564.toInt - p649565.toInt)).toNat) ((256 * (p649564.toInt - p649565.toInt)).toNat)) ky_649583_Reader_number 16 [(2, .long gl649783), (0, .ref q649561), (1, .int p649563)] [] (va_pl P649559 F649785) 0 0 := by
      intro n16_649791
      induction n16_649791 with
      | zero => intro F649785 gl649783 g649784 bg649784 hfr649788 he649786 he649787 x649789 x649790 x649791 hm16_649791; exact absurd hm16_649791 (Nat.not_lt_zero _)
      | succ n16_649791 ih16_649791 =>
        intro F649785 gl649783 g649784 bg649784 hfr649788 he649786 he649787 x649789 x649790 x649791 hm16_649791
        refine G_aload_n 1 dr_cX14_number_16 rfl ?_
        refine Gp_get 2 hmq649561 he649786 dr_cX14_number_17 (gk_X14 D I) (Nat.le_of_ble_eq_true rfl) wr_9_38 rfl ?_
        refine G_aload_n 1 dr_cX14_number_20 rfl ?_
        refine Gp_get 1 hmq649561 he649786 dr_cX14_number_21 (gk_X14 D I) (Nat.le_of_ble_eq_true rfl) wr_9_37 rfl ?_
        refine G_icmp_ge 82 dr_cX14_number_24 (by decide +kernel) (fun hc649792 => ?_) (fun hc649792 => ?_)
        · have r649793 : p649564.toInt ≤ g649784.toInt := gC_le hc649792
          have x649794 : p649565.toInt < g649784.toInt := by first | omega | exact cDg_lt x649580 (by omega) (by assumption) (isP_0 (by assumption) (by omega)) (by omega)
          refine G_iload_n 2 dr_cX14_number_82 rfl ?_
          refine G_if_eq 89 dr_cX14_number_83 (by decide +kernel) (fun _ => ?_) (fun hc => absurd (show False by have := gj_neq hc (show Int32.toInt 0 = 0 by decide); omega) not_false)
          refine G_aload_n 1 dr_cX14_number_89 rfl ?_
          refine G_lload_n 0 dr_cX14_number_90 rfl ?_
          refine G_l2i dr_cX14_number_91 (G_nam fun z649795 hz649795 => ?_)
          have bz649795 : gB z649795 (-2147483648) 2147483647 := gB_any z649795
          refine Gp_put 5 hmq649561 he649786 dr_cX14_number_92 (gk_X14 D I) (Nat.le_of_ble_eq_true rfl) wr_9_41 rfl rfl rfl (Nat.le_of_ble_eq_true rfl) (fun F649796 e649797 n649798 => ?_)
          have he649799 : F649796 q649562 = .inl (I .byte, 8192, .inl f649577) := (n649798 q649562 (rn_ao he649787 he649786)).trans he649787
          have he649800 : F649796 q649561 = .inr (19, [.ref q649562, .int p649564, .int g649784, .int p649566, .int p649567, .int z649795, .int p649569, .ref qo649570, .int p649571, .int p649572, .int p649573, .ref qo649574, .ref qo649575, .int p649576]) := e649797
          have hfr649801 : rFr [q649561] P649559 F649560 F649796 := rFr_put' List.mem_cons_self hfr649788 n649798
          refine G_aload_n 1 dr_cX14_number_95 rfl ?_
          refine G_lload_n 0 dr_cX14_number_96 rfl ?_
          refine G_lload_n 0 dr_cX14_number_97 rfl ?_
          refine G_l2i dr_cX14_number_98 (G_nam fun z649802 hz649802 => ?_)
          have bz649802 : gB z649802 (-2147483648) 2147483647 := gB_any z649802
          refine G_i2l dr_cX14_number_99 (G_namL fun u649803 hu649803 => ?_)
          refine G_lcmp dr_cX14_number_100 (G_nam fun z649804 hz649804 => ?_)
          have bz649804 : gB z649804 (-1) 1 := gB_cmp hz649804
          refine G_if_ne 108 dr_cX14_number_101 (by decide +kernel) (fun hc649805 => ?_) (fun hc649805 => ?_)
          · have r649806 : z649804.toInt ≠ 0 := gj_neq hc649805 (show Int32.toInt 0 = 0 by decide)
            have lhc649805 := gC_cmpN hz649804 hc649805
            refine G_bipush 6 dr_cX14_number_108 (by decide +kernel) ?_
            refine Gp_put 3 hmq649561 he649800 dr_cX14_number_110 (gk_X14 D I) (Nat.le_of_ble_eq_true rfl) wr_9_39 rfl rfl rfl (Nat.le_of_ble_eq_true rfl) (fun F649807 e649808 n649809 => ?_)
            have he649810 : F649807 q649562 = .inl (I .byte, 8192, .inl f649577) := (n649809 q649562 (rn_ao he649799 he649800)).trans he649799
            have he649811 : F649807 q649561 = .inr (19, [.ref q649562, .int p649564, .int g649784, .int 6, .int p649567, .int z649795, .int p649569, .ref qo649570, .int p649571, .int p649572, .int p649573, .ref qo649574, .ref qo649575, .int p649576]) := e649808
            have hfr649812 : rFr [q649561] P649559 F649560 F649807 := rFr_put' List.mem_cons_self hfr649801 n649809
            exact G_vretA dr_cX14_number_113 rfl (show 0 ≤ ((16 * (p649564.toInt - p649565.toInt)).toNat) by omega) (show 0 ≤ ((256 * (p649564.toInt - p649565.toInt)).toNat) by omega) ⟨F649807, g649784, 6, z649795, rfl, rfl, hfr649812, he649811, he649810, (by omega), (by omega), bg649784, (gB_w (gBl (show Int32.toInt 6 = 6 by decide)) (by decide) (by decide)), (by have qa0 : Int32.toInt 6 = 6 := (by decide); omega), (by have qa0 : Int32.toInt 6 = 6 := (by decide); omega), (tP_no (by decide) (by decide)), (vP_no (by decide) (by decide))⟩
          · have r649813 : z649804.toInt = 0 := gj_eq hc649805 (show Int32.toInt 0 = 0 by decide)
            have bz649804' : gB z649804 0 0 := ⟨by omega, by omega⟩
            have lhc649805 := gC_cmpE hz649804 hc649805
            refine G_iconst 4 dr_cX14_number_104 (by decide +kernel) ?_
            refine G_goto 110 dr_cX14_number_105 (by decide +kernel) ?_
            refine Gp_put 3 hmq649561 he649800 dr_cX14_number_110 (gk_X14 D I) (Nat.le_of_ble_eq_true rfl) wr_9_39 rfl rfl rfl (Nat.le_of_ble_eq_true rfl) (fun F649814 e649815 n649816 => ?_)
            have he649817 : F649814 q649562 = .inl (I .byte, 8192, .inl f649577) := (n649816 q649562 (rn_ao he649799 he649800)).trans he649799
            have he649818 : F649814 q649561 = .inr (19, [.ref q649562, .int p649564, .int g649784, .int 4, .int p649567, .int z649795, .int p649569, .ref qo649570, .int p649571, .int p649572, .int p649573, .ref qo649574, .ref qo649575, .int p649576]) := e649815
            have hfr649819 : rFr [q649561] P649559 F649560 F649814 := rFr_put' List.mem_cons_self hfr649801 n649816
            exact G_vretA dr_cX14_number_113 rfl (show 0 ≤ ((16 * (p649564.toInt - p649565.toInt)).toNat) by omega) (show 0 ≤ ((256 * (p649564.toInt - p649565.toInt)).toNat) by omega) ⟨F649814, g649784, 4, z649795, rfl, rfl, hfr649819, he649818, he649817, (by omega), (by omega), bg649784, (gB_w (gBl (show Int32.toInt 4 = 4 by decide)) (by decide) (by decide)), (by have qa0 : Int32.toInt 4 = 4 := (by decide); omega), (by have qa0 : Int32.toInt 4 = 4 := (by decide); omega), (tP_no (by decide) (by decide)), (vP_no (by decide) (by decide))⟩
        · have r649820 : g649784.toInt < p649564.toInt := gC_nle hc649792
          have bg649784' : gB g649784 0 8191 := ⟨by omega, by omega⟩
          have bp649564' : gB p649564 1 8192 := ⟨by omega, by omega⟩
          refine G_aload_n 1 dr_cX14_number_27 rfl ?_
          refine Gp_get 0 hmq649561 he649786 dr_cX14_number_28 (gk_X14 D I) (Nat.le_of_ble_eq_true rfl) wr_9_36 rfl ?_
          refine G_aload_n 1 dr_cX14_number_31 rfl ?_
          refine Gp_get 2 hmq649561 he649786 dr_cX14_number_32 (gk_X14 D I) (Nat.le_of_ble_eq_true rfl) wr_9_38 rfl ?_
          refine Gp_bald 1 hmq649562 he649787 dr_cX14_number_35 rfl (gB_in bg649784' (by decide) (by decide)) (G_nam fun z649821 hz649821 => ?_)
          have bz649821 : gB z649821 (-128) 127 := by rw [hz649821]; exact bf649577 _
          refine Gw_callS (As := [.int z649821]) (gV_ok D I) (cp_649619_Reader_isDigit l hl0 D I P649559 F649785 z649821 ) dr_cX14_number_36 ⟨wr_7_219, wr_1_32, wr_7_221, by decide, rfl, (Nat.le_of_ble_eq_true rfl), (Nat.le_of_ble_eq_true rfl)⟩ wr_7_220 (show 0 + 0 ≤ ((16 * (p649564.toInt - p649565.toInt)).toNat) by first | omega | decide) (show 0 + 0 ≤ ((256 * (p649564.toInt - p649565.toInt)).toNat) by first | omega | decide) (Nat.le_of_ble_eq_true rfl) (fun r649825 w649826 dc649822 ds649823 hp649824 => ?_) (fun _ _ _ _ _ z => z.elim)
          obtain ⟨o649827, rfl, rfl, hdc, hds, bo649827, x649828⟩ := hp649824
          change G _ _ _ _ _ _ _ (.int o649827 :: _) _ _ _
          refine G_widen (cs' := 0) (sl' := 0) (by omega) (by omega) ?_
          refine G_if_eq 82 dr_cX14_number_39 (by decide +kernel) (fun hc649829 => ?_) (fun hc649829 => ?_)
          · have r649830 : o649827.toInt = 0 := gj_eq hc649829 (show Int32.toInt 0 = 0 by decide)
            have bo649827' : gB o649827 0 0 := ⟨by omega, by omega⟩
            have x649831 : p649565.toInt < g649784.toInt := by first | omega | exact cDg_lt x649580 (by omega) (by assumption) (isP_0 (by assumption) (by omega)) (by omega)
            refine G_iload_n 2 dr_cX14_number_82 rfl ?_
            refine G_if_eq 89 dr_cX14_number_83 (by decide +kernel) (fun _ => ?_) (fun hc => absurd (show False by have := gj_neq hc (show Int32.toInt 0 = 0 by decide); omega) not_false)
            refine G_aload_n 1 dr_cX14_number_89 rfl ?_
            refine G_lload_n 0 dr_cX14_number_90 rfl ?_
            refine G_l2i dr_cX14_number_91 (G_nam fun z649832 hz649832 => ?_)
            have bz649832 : gB z649832 (-2147483648) 2147483647 := gB_any z649832
            refine Gp_put 5 hmq649561 he649786 dr_cX14_number_92 (gk_X14 D I) (Nat.le_of_ble_eq_true rfl) wr_9_41 rfl rfl rfl (Nat.le_of_ble_eq_true rfl) (fun F649833 e649834 n649835 => ?_)
            have he649836 : F649833 q649562 = .inl (I .byte, 8192, .inl f649577) := (n649835 q649562 (rn_ao he649787 he649786)).trans he649787
            have he649837 : F649833 q649561 = .inr (19, [.ref q649562, .int p649564, .int g649784, .int p649566, .int p649567, .int z649832, .int p649569, .ref qo649570, .int p649571, .int p649572, .int p649573, .ref qo649574, .ref qo649575, .int p649576]) := e649834
            have hfr649838 : rFr [q649561] P649559 F649560 F649833 := rFr_put' List.mem_cons_self hfr649788 n649835
            refine G_aload_n 1 dr_cX14_number_95 rfl ?_
            refine G_lload_n 0 dr_cX14_number_96 rfl ?_
            refine G_lload_n 0 dr_cX14_number_97 rfl ?_
            refine G_l2i dr_cX14_number_98 (G_nam fun z649839 hz649839 => ?_)
            have bz649839 : gB z649839 (-2147483648) 2147483647 := gB_any z649839
            refine G_i2l dr_cX14_number_99 (G_namL fun u649840 hu649840 => ?_)
            refine G_lcmp dr_cX14_number_100 (G_nam fun z649841 hz649841 => ?_)
            have bz649841 : gB z649841 (-1) 1 := gB_cmp hz649841
            refine G_if_ne 108 dr_cX14_number_101 (by decide +kernel) (fun hc649842 => ?_) (fun hc649842 => ?_)
            · have r649843 : z649841.toInt ≠ 0 := gj_neq hc649842 (show Int32.toInt 0 = 0 by decide)
              have lhc649842 := gC_cmpN hz649841 hc649842
              refine G_bipush 6 dr_cX14_number_108 (by decide +kernel) ?_
              refine Gp_put 3 hmq649561 he649837 dr_cX14_number_110 (gk_X14 D I) (Nat.le_of_ble_eq_true rfl) wr_9_39 rfl rfl rfl (Nat.le_of_ble_eq_true rfl) (fun F649844 e649845 n649846 => ?_)
              have he649847 : F649844 q649562 = .inl (I .byte, 8192, .inl f649577) := (n649846 q649562 (rn_ao he649836 he649837)).trans he649836
              have he649848 : F649844 q649561 = .inr (19, [.ref q649562, .int p649564, .int g649784, .int 6, .int p649567, .int z649832, .int p649569, .ref qo649570, .int p649571, .int p649572, .int p649573, .ref qo649574, .ref qo649575, .int p649576]) := e649845
              have hfr649849 : rFr [q649561] P649559 F649560 F649844 := rFr_put' List.mem_cons_self hfr649838 n649846
              exact G_vretA dr_cX14_number_113 rfl (show 0 ≤ ((16 * (p649564.toInt - p649565.toInt)).toNat) by omega) (show 0 ≤ ((256 * (p649564.toInt - p649565.toInt)).toNat) by omega) ⟨F649844, g649784, 6, z649832, rfl, rfl, hfr649849, he649848, he649847, (by omega), (by omega), (gB_w bg649784' (by decide) (by decide)), (gB_w (gBl (show Int32.toInt 6 = 6 by decide)) (by decide) (by decide)), (by have qa0 : Int32.toInt 6 = 6 := (by decide); omega), (by have qa0 : Int32.toInt 6 = 6 := (by decide); omega), (tP_no (by decide) (by decide)), (vP_no (by decide) (by decide))⟩
            · have r649850 : z649841.toInt = 0 := gj_eq hc649842 (show Int32.toInt 0 = 0 by decide)
              have bz649841' : gB z649841 0 0 := ⟨by omega, by omega⟩
              have lhc649842 := gC_cmpE hz649841 hc649842
              refine G_iconst 4 dr_cX14_number_104 (by decide +kernel) ?_
              refine G_goto 110 dr_cX14_number_105 (by decide +kernel) ?_
              refine Gp_put 3 hmq649561 he649837 dr_cX14_number_110 (gk_X14 D I) (Nat.le_of_ble_eq_true rfl) wr_9_39 rfl rfl rfl (Nat.le_of_ble_eq_true rfl) (fun F649851 e649852 n649853 => ?_)
              have he649854 : F649851 q649562 = .inl (I .byte, 8192, .inl f649577) := (n649853 q649562 (rn_ao he649836 he649837)).trans he649836
              have he649855 : F649851 q649561 = .inr (19, [.ref q649562, .int p649564, .int g649784, .int 4, .int p649567, .int z649832, .int p649569, .ref qo649570, .int p649571, .int p649572, .int p649573, .ref qo649574, .ref qo649575, .int p649576]) := e649852
              have hfr649856 : rFr [q649561] P649559 F649560 F649851 := rFr_put' List.mem_cons_self hfr649838 n649853
              exact G_vretA dr_cX14_number_113 rfl (show 0 ≤ ((16 * (p649564.toInt - p649565.toInt)).toNat) by omega) (show 0 ≤ ((256 * (p649564.toInt - p649565.toInt)).toNat) by omega) ⟨F649851, g649784, 4, z649832, rfl, rfl, hfr649856, he649855, he649854, (by omega), (by omega), (gB_w bg649784' (by decide) (by decide)), (gB_w (gBl (show Int32.toInt 4 = 4 by decide)) (by decide) (by decide)), (by have qa0 : Int32.toInt 4 = 4 := (by decide); omega), (by have qa0 : Int32.toInt 4 = 4 := (by decide); omega), (tP_no (by decide) (by decide)), (vP_no (by decide) (by decide))⟩
          · have r649857 : o649827.toInt ≠ 0 := gj_neq hc649829 (show Int32.toInt 0 = 0 by decide)
            have bo649827' : gB o649827 1 1 := ⟨by omega, by omega⟩
            have bi649858 : gB z649821 48 57 := isP_1 x649828 (by omega)
            refine G_lload_n 0 dr_cX14_number_42 rfl ?_
            refine G_ldc2 10 dr_cX14_number_43 wr_7_229 ?_
            refine G_lmul dr_cX14_number_46 (G_namL fun u649859 hu649859 => ?_)
            refine G_aload_n 1 dr_cX14_number_47 rfl ?_
            refine Gp_get 0 hmq649561 he649786 dr_cX14_number_48 (gk_X14 D I) (Nat.le_of_ble_eq_true rfl) wr_9_36 rfl ?_
            refine G_aload_n 1 dr_cX14_number_51 rfl ?_
            refine Gp_get 2 hmq649561 he649786 dr_cX14_number_52 (gk_X14 D I) (Nat.le_of_ble_eq_true rfl) wr_9_38 rfl ?_
            refine Gp_bald 1 hmq649562 he649787 dr_cX14_number_55 rfl (gB_in bg649784' (by decide) (by decide)) (G_eqi (y := z649821) hz649821.symm ?_)
            refine G_i2l dr_cX14_number_56 (G_namL fun u649860 hu649860 => ?_)
            refine G_ladd dr_cX14_number_57 (G_namL fun u649861 hu649861 => ?_)
            refine G_ldc2 48 dr_cX14_number_58 wr_7_230 ?_
            refine G_lsub dr_cX14_number_61 (G_namL fun u649862 hu649862 => ?_)
            refine G_ldc2 1099511627776 dr_cX14_number_62 wr_8_222 ?_
            refine Gw_callS (As := [.long u649862, .long 1099511627776]) (gV_ok D I) (cp_649672_Math_min l hl0 D I P649559 F649785 u649862 1099511627776 ) dr_cX14_number_65 ⟨wr_7_232, wr_1_6, wr_3_40, by decide, rfl, (Nat.le_of_ble_eq_true rfl), (Nat.le_of_ble_eq_true rfl)⟩ wr_3_39 (show 0 + 0 ≤ ((16 * (p649564.toInt - p649565.toInt)).toNat) by first | omega | decide) (show 0 + 0 ≤ ((256 * (p649564.toInt - p649565.toInt)).toNat) by first | omega | decide) (Nat.le_of_ble_eq_true rfl) (fun r649866 w649867 dc649863 ds649864 hp649865 => ?_) (fun _ _ _ _ _ z => z.elim)
            obtain ⟨ol649868, rfl, rfl, hdc, hds, x649869⟩ := hp649865
            change G _ _ _ _ _ _ _ (.long ol649868 :: _) _ _ _
            refine G_widen (cs' := 0) (sl' := 0) (by omega) (by omega) ?_
            refine G_lstore_n (L' := [(2, .long ol649868), (0, .ref q649561), (1, .int p649563)]) dr_cX14_number_68 (Nat.le_of_ble_eq_true rfl) rfl ?_
            refine G_aload_n 1 dr_cX14_number_69 rfl ?_
            refine G_dup dr_cX14_number_70 rfl ?_
            refine Gp_get 2 hmq649561 he649786 dr_cX14_number_71 (gk_X14 D I) (Nat.le_of_ble_eq_true rfl) wr_9_38 rfl ?_
            refine G_iconst 1 dr_cX14_number_74 (by decide +kernel) ?_
            refine G_iadd dr_cX14_number_75 (G_nam fun z649870 hz649870 => ?_)
            have ez649870 : z649870.toInt = g649784.toInt + 1 := by rw [gI_add hz649870 bg649784' (gBl (show Int32.toInt 1 = 1 by decide)) (by decide) (by decide), show Int32.toInt 1 = 1 from by decide]
            have bz649870 : gB z649870 1 8192 := gB_add (gI_add hz649870 bg649784' (gBl (show Int32.toInt 1 = 1 by decide)) (by decide) (by decide)) bg649784' (gBl (show Int32.toInt 1 = 1 by decide)) (by decide) (by decide)
            refine Gp_put 2 hmq649561 he649786 dr_cX14_number_76 (gk_X14 D I) (Nat.le_of_ble_eq_true rfl) wr_9_38 rfl rfl rfl (Nat.le_of_ble_eq_true rfl) (fun F649871 e649872 n649873 => ?_)
            have he649874 : F649871 q649562 = .inl (I .byte, 8192, .inl f649577) := (n649873 q649562 (rn_ao he649787 he649786)).trans he649787
            have he649875 : F649871 q649561 = .inr (19, [.ref q649562, .int p649564, .int z649870, .int p649566, .int p649567, .int p649568, .int p649569, .ref qo649570, .int p649571, .int p649572, .int p649573, .ref qo649574, .ref qo649575, .int p649576]) := e649872
            have hfr649876 : rFr [q649561] P649559 F649560 F649871 := rFr_put' List.mem_cons_self hfr649788 n649873
            refine G_goto 16 dr_cX14_number_79 (by decide +kernel) ?_
            exact ih16_649791 F649871 ol649868 z649870 (gB_w bz649870 (by decide) (by decide)) hfr649876 he649875 he649874 (by omega) (by omega) (by omega) (by omega)
    exact hlp16_649791 (((8193 : Int) - p649565.toInt).toNat + 1) F649560 0 p649565 bp649565 (rFr_v (rFr_rf (W := []) (P := P649559) (F := F649560)) (fun b hn => nm_n)) heq649561 heq649562 (by omega) (by omega) (by omega) (Nat.lt_succ_self _)
  · have r649877 : p649563.toInt ≠ 0 := gj_neq hc649584 (show Int32.toInt 0 = 0 by decide)
    have bp649563' : gB p649563 1 1 := ⟨by omega, by omega⟩
    refine G_aload_n 0 dr_cX14_number_4 rfl ?_
    refine G_dup dr_cX14_number_5 rfl ?_
    refine Gp_get 2 hmq649561 heq649561 dr_cX14_number_6 (gk_X14 D I) (Nat.le_of_ble_eq_true rfl) wr_9_38 rfl ?_
    refine G_iconst 1 dr_cX14_number_9 (by decide +kernel) ?_
    refine G_iadd dr_cX14_number_10 (G_nam fun z649878 hz649878 => ?_)
    have ez649878 : z649878.toInt = p649565.toInt + 1 := by rw [gI_add hz649878 bp649565 (gBl (show Int32.toInt 1 = 1 by decide)) (by decide) (by decide), show Int32.toInt 1 = 1 from by decide]
    have bz649878 : gB z649878 1 8193 := gB_add (gI_add hz649878 bp649565 (gBl (show Int32.toInt 1 = 1 by decide)) (by decide) (by decide)) bp649565 (gBl (show Int32.toInt 1 = 1 by decide)) (by decide) (by decide)
    refine Gp_put 2 hmq649561 heq649561 dr_cX14_number_11 (gk_X14 D I) (Nat.le_of_ble_eq_true rfl) wr_9_38 rfl rfl rfl (Nat.le_of_ble_eq_true rfl) (fun F649879 e649880 n649881 => ?_)
    have he649882 : F649879 q649562 = .inl (I .byte, 8192, .inl f649577) := (n649881 q649562 (rn_ao heq649562 heq649561)).trans heq649562
    have he649883 : F649879 q649561 = .inr (19, [.ref q649562, .int p649564, .int z649878, .int p649566, .int p649567, .int p649568, .int p649569, .ref qo649570, .int p649571, .int p649572, .int p649573, .ref qo649574, .ref qo649575, .int p649576]) := e649880
    have hfr649884 : rFr [q649561] P649559 F649560 F649879 := rFr_put (rFr_rf (W := []) (P := P649559) (F := F649560)) n649881
    refine G_lconst 0 dr_cX14_number_14 rfl ?_
    refine G_lstore_n (L' := [(2, .long 0), (0, .ref q649561), (1, .int p649563)]) dr_cX14_number_15 (Nat.le_of_ble_eq_true rfl) rfl ?_
    have hlp16_650073 : ∀ (n16_650073 : Nat) (F650067 : Nat → va_E) (gl650065 : Int64) (g650066 : Int32), gB g650066 0 8192 → rFr [q649561] P649559 F649560 F650067 → F650067 q649561 = .inr (19, [.ref q649562, .int p649564, .int g650066, .int p649566, .int p649567, .int p649568, .int p649569, .ref qo649570, .int p649571, .int p649572, .int p649573, .ref qo649574, .ref qo649575, .int p649576]) → F650067 q649562 = .inl (I .byte, 8192, .inl f649577) → p649565.toInt ≤ g650066.toInt → g650066.toInt ≤ p649564.toInt → (p649563.toInt = 0 ∨ p649565.toInt < g650066.toInt) → ((8193 : Int) - g650066.toInt).toNat < n16_650073 → G (gV D I) l (gRm 1 23 ((16 * (p649564.toInt - p649565.toInt)).toNat) ((256 * (p649564.toInt - p649565.toInt)).toNat)) (gMA (gV D I) (pp_649583_Reader_number D I P649559 F649560 q649561 q649562 p649563 p649564 p649565 p649566 p649567 p649568 p649569 qo649570 p649571 p649572 p649573 qo649574 qo649575 p649576 f649577) gNA ((16 * (p649564.toInt - p649565.toInt)).toNat) ((256 * (p649564.toInt - p649565.toInt)).toNat)) ky_649583_Reader_number 16 [(2, .long gl650065), (0, .ref q649561), (1, .int p649563)] [] (va_pl P649559 F650067) 0 0 := by
      intro n16_650073
      induction n16_650073 with
      | zero => intro F650067 gl650065 g650066 bg650066 hfr650070 he650068 he650069 x650071 x650072 x650073 hm16_650073; exact absurd hm16_650073 (Nat.not_lt_zero _)
      | succ n16_650073 ih16_650073 =>
        intro F650067 gl650065 g650066 bg650066 hfr650070 he650068 he650069 x650071 x650072 x650073 hm16_650073
        refine G_aload_n 1 dr_cX14_number_16 rfl ?_
        refine Gp_get 2 hmq649561 he650068 dr_cX14_number_17 (gk_X14 D I) (Nat.le_of_ble_eq_true rfl) wr_9_38 rfl ?_
        refine G_aload_n 1 dr_cX14_number_20 rfl ?_
        refine Gp_get 1 hmq649561 he650068 dr_cX14_number_21 (gk_X14 D I) (Nat.le_of_ble_eq_true rfl) wr_9_37 rfl ?_
        refine G_icmp_ge 82 dr_cX14_number_24 (by decide +kernel) (fun hc650074 => ?_) (fun hc650074 => ?_)
        · have r650075 : p649564.toInt ≤ g650066.toInt := gC_le hc650074
          have x650076 : p649565.toInt < g650066.toInt := by first | omega | exact cDg_lt x649580 (by omega) (by assumption) (isP_0 (by assumption) (by omega)) (by omega)
          refine G_iload_n 2 dr_cX14_number_82 rfl ?_
          refine G_if_eq 89 dr_cX14_number_83 (by decide +kernel) (fun hc => absurd (show False by have := gj_eq hc (show Int32.toInt 0 = 0 by decide); omega) not_false) (fun _ => ?_)
          refine G_lload_n 0 dr_cX14_number_86 rfl ?_
          refine G_lneg dr_cX14_number_87 (G_namL fun u650077 hu650077 => ?_)
          refine G_lstore_n (L' := [(2, .long u650077), (0, .ref q649561), (1, .int p649563)]) dr_cX14_number_88 (Nat.le_of_ble_eq_true rfl) rfl ?_
          refine G_aload_n 1 dr_cX14_number_89 rfl ?_
          refine G_lload_n 0 dr_cX14_number_90 rfl ?_
          refine G_l2i dr_cX14_number_91 (G_nam fun z650078 hz650078 => ?_)
          have bz650078 : gB z650078 (-2147483648) 2147483647 := gB_any z650078
          refine Gp_put 5 hmq649561 he650068 dr_cX14_number_92 (gk_X14 D I) (Nat.le_of_ble_eq_true rfl) wr_9_41 rfl rfl rfl (Nat.le_of_ble_eq_true rfl) (fun F650079 e650080 n650081 => ?_)
          have he650082 : F650079 q649562 = .inl (I .byte, 8192, .inl f649577) := (n650081 q649562 (rn_ao he650069 he650068)).trans he650069
          have he650083 : F650079 q649561 = .inr (19, [.ref q649562, .int p649564, .int g650066, .int p649566, .int p649567, .int z650078, .int p649569, .ref qo649570, .int p649571, .int p649572, .int p649573, .ref qo649574, .ref qo649575, .int p649576]) := e650080
          have hfr650084 : rFr [q649561] P649559 F649560 F650079 := rFr_put' List.mem_cons_self hfr650070 n650081
          refine G_aload_n 1 dr_cX14_number_95 rfl ?_
          refine G_lload_n 0 dr_cX14_number_96 rfl ?_
          refine G_lload_n 0 dr_cX14_number_97 rfl ?_
          refine G_l2i dr_cX14_number_98 (G_nam fun z650085 hz650085 => ?_)
          have bz650085 : gB z650085 (-2147483648) 2147483647 := gB_any z650085
          refine G_i2l dr_cX14_number_99 (G_namL fun u650086 hu650086 => ?_)
          refine G_lcmp dr_cX14_number_100 (G_nam fun z650087 hz650087 => ?_)
          have bz650087 : gB z650087 (-1) 1 := gB_cmp hz650087
          refine G_if_ne 108 dr_cX14_number_101 (by decide +kernel) (fun hc650088 => ?_) (fun hc650088 => ?_)
          · have r650089 : z650087.toInt ≠ 0 := gj_neq hc650088 (show Int32.toInt 0 = 0 by decide)
            have lhc650088 := gC_cmpN hz650087 hc650088
            refine G_bipush 6 dr_cX14_number_108 (by decide +kernel) ?_
            refine Gp_put 3 hmq649561 he650083 dr_cX14_number_110 (gk_X14 D I) (Nat.le_of_ble_eq_true rfl) wr_9_39 rfl rfl rfl (Nat.le_of_ble_eq_true rfl) (fun F650090 e650091 n650092 => ?_)
            have he650093 : F650090 q649562 = .inl (I .byte, 8192, .inl f649577) := (n650092 q649562 (rn_ao he650082 he650083)).trans he650082
            have he650094 : F650090 q649561 = .inr (19, [.ref q649562, .int p649564, .int g650066, .int 6, .int p649567, .int z650078, .int p649569, .ref qo649570, .int p649571, .int p649572, .int p649573, .ref qo649574, .ref qo649575, .int p649576]) := e650091
            have hfr650095 : rFr [q649561] P649559 F649560 F650090 := rFr_put' List.mem_cons_self hfr650084 n650092
            exact G_vretA dr_cX14_number_113 rfl (show 0 ≤ ((16 * (p649564.toInt - p649565.toInt)).toNat) by omega) (show 0 ≤ ((256 * (p649564.toInt - p649565.toInt)).toNat) by omega) ⟨F650090, g650066, 6, z650078, rfl, rfl, hfr650095, he650094, he650093, (by omega), (by omega), bg650066, (gB_w (gBl (show Int32.toInt 6 = 6 by decide)) (by decide) (by decide)), (by have qa0 : Int32.toInt 6 = 6 := (by decide); omega), (by have qa0 : Int32.toInt 6 = 6 := (by decide); omega), (tP_no (by decide) (by decide)), (vP_no (by decide) (by decide))⟩
          · have r650096 : z650087.toInt = 0 := gj_eq hc650088 (show Int32.toInt 0 = 0 by decide)
            have bz650087' : gB z650087 0 0 := ⟨by omega, by omega⟩
            have lhc650088 := gC_cmpE hz650087 hc650088
            refine G_iconst 4 dr_cX14_number_104 (by decide +kernel) ?_
            refine G_goto 110 dr_cX14_number_105 (by decide +kernel) ?_
            refine Gp_put 3 hmq649561 he650083 dr_cX14_number_110 (gk_X14 D I) (Nat.le_of_ble_eq_true rfl) wr_9_39 rfl rfl rfl (Nat.le_of_ble_eq_true rfl) (fun F650097 e650098 n650099 => ?_)
            have he650100 : F650097 q649562 = .inl (I .byte, 8192, .inl f649577) := (n650099 q649562 (rn_ao he650082 he650083)).trans he650082
            have he650101 : F650097 q649561 = .inr (19, [.ref q649562, .int p649564, .int g650066, .int 4, .int p649567, .int z650078, .int p649569, .ref qo649570, .int p649571, .int p649572, .int p649573, .ref qo649574, .ref qo649575, .int p649576]) := e650098
            have hfr650102 : rFr [q649561] P649559 F649560 F650097 := rFr_put' List.mem_cons_self hfr650084 n650099
            exact G_vretA dr_cX14_number_113 rfl (show 0 ≤ ((16 * (p649564.toInt - p649565.toInt)).toNat) by omega) (show 0 ≤ ((256 * (p649564.toInt - p649565.toInt)).toNat) by omega) ⟨F650097, g650066, 4, z650078, rfl, rfl, hfr650102, he650101, he650100, (by omega), (by omega), bg650066, (gB_w (gBl (show Int32.toInt 4 = 4 by decide)) (by decide) (by decide)), (by have qa0 : Int32.toInt 4 = 4 := (by decide); omega), (by have qa0 : Int32.toInt 4 = 4 := (by decide); omega), (tP_no (by decide) (by decide)), (vP_no (by decide) (by decide))⟩
        · have r650103 : g650066.toInt < p649564.toInt := gC_nle hc650074
          have bg650066' : gB g650066 0 8191 := ⟨by omega, by omega⟩
          have bp649564' : gB p649564 1 8192 := ⟨by omega, by omega⟩
          refine G_aload_n 1 dr_cX14_number_27 rfl ?_
          refine Gp_get 0 hmq649561 he650068 dr_cX14_number_28 (gk_X14 D I) (Nat.le_of_ble_eq_true rfl) wr_9_36 rfl ?_
          refine G_aload_n 1 dr_cX14_number_31 rfl ?_
          refine Gp_get 2 hmq649561 he650068 dr_cX14_number_32 (gk_X14 D I) (Nat.le_of_ble_eq_true rfl) wr_9_38 rfl ?_
          refine Gp_bald 1 hmq649562 he650069 dr_cX14_number_35 rfl (gB_in bg650066' (by decide) (by decide)) (G_nam fun z650104 hz650104 => ?_)
          have bz650104 : gB z650104 (-128) 127 := by rw [hz650104]; exact bf649577 _
          refine Gw_callS (As := [.int z650104]) (gV_ok D I) (cp_649619_Reader_isDigit l hl0 D I P649559 F650067 z650104 ) dr_cX14_number_36 ⟨wr_7_219, wr_1_32, wr_7_221, by decide, rfl, (Nat.le_of_ble_eq_true rfl), (Nat.le_of_ble_eq_true rfl)⟩ wr_7_220 (show 0 + 0 ≤ ((16 * (p649564.toInt - p649565.toInt)).toNat) by first | omega | decide) (show 0 + 0 ≤ ((256 * (p649564.toInt - p649565.toInt)).toNat) by first | omega | decide) (Nat.le_of_ble_eq_true rfl) (fun r650108 w650109 dc650105 ds650106 hp650107 => ?_) (fun _ _ _ _ _ z => z.elim)
          obtain ⟨o650110, rfl, rfl, hdc, hds, bo650110, x650111⟩ := hp650107
          change G _ _ _ _ _ _ _ (.int o650110 :: _) _ _ _
          refine G_widen (cs' := 0) (sl' := 0) (by omega) (by omega) ?_
          refine G_if_eq 82 dr_cX14_number_39 (by decide +kernel) (fun hc650112 => ?_) (fun hc650112 => ?_)
          · have r650113 : o650110.toInt = 0 := gj_eq hc650112 (show Int32.toInt 0 = 0 by decide)
            have bo650110' : gB o650110 0 0 := ⟨by omega, by omega⟩
            have x650114 : p649565.toInt < g650066.toInt := by first | omega | exact cDg_lt x649580 (by omega) (by assumption) (isP_0 (by assumption) (by omega)) (by omega)
            refine G_iload_n 2 dr_cX14_number_82 rfl ?_
            refine G_if_eq 89 dr_cX14_number_83 (by decide +kernel) (fun hc => absurd (show False by have := gj_eq hc (show Int32.toInt 0 = 0 by decide); omega) not_false) (fun _ => ?_)
            refine G_lload_n 0 dr_cX14_number_86 rfl ?_
            refine G_lneg dr_cX14_number_87 (G_namL fun u650115 hu650115 => ?_)
            refine G_lstore_n (L' := [(2, .long u650115), (0, .ref q649561), (1, .int p649563)]) dr_cX14_number_88 (Nat.le_of_ble_eq_true rfl) rfl ?_
            refine G_aload_n 1 dr_cX14_number_89 rfl ?_
            refine G_lload_n 0 dr_cX14_number_90 rfl ?_
            refine G_l2i dr_cX14_number_91 (G_nam fun z650116 hz650116 => ?_)
            have bz650116 : gB z650116 (-2147483648) 2147483647 := gB_any z650116
            refine Gp_put 5 hmq649561 he650068 dr_cX14_number_92 (gk_X14 D I) (Nat.le_of_ble_eq_true rfl) wr_9_41 rfl rfl rfl (Nat.le_of_ble_eq_true rfl) (fun F650117 e650118 n650119 => ?_)
            have he650120 : F650117 q649562 = .inl (I .byte, 8192, .inl f649577) := (n650119 q649562 (rn_ao he650069 he650068)).trans he650069
            have he650121 : F650117 q649561 = .inr (19, [.ref q649562, .int p649564, .int g650066, .int p649566, .int p649567, .int z650116, .int p649569, .ref qo649570, .int p649571, .int p649572, .int p649573, .ref qo649574, .ref qo649575, .int p649576]) := e650118
            have hfr650122 : rFr [q649561] P649559 F649560 F650117 := rFr_put' List.mem_cons_self hfr650070 n650119
            refine G_aload_n 1 dr_cX14_number_95 rfl ?_
            refine G_lload_n 0 dr_cX14_number_96 rfl ?_
            refine G_lload_n 0 dr_cX14_number_97 rfl ?_
            refine G_l2i dr_cX14_number_98 (G_nam fun z650123 hz650123 => ?_)
            have bz650123 : gB z650123 (-2147483648) 2147483647 := gB_any z650123
            refine G_i2l dr_cX14_number_99 (G_namL fun u650124 hu650124 => ?_)
            refine G_lcmp dr_cX14_number_100 (G_nam fun z650125 hz650125 => ?_)
            have bz650125 : gB z650125 (-1) 1 := gB_cmp hz650125
            refine G_if_ne 108 dr_cX14_number_101 (by decide +kernel) (fun hc650126 => ?_) (fun hc650126 => ?_)
            · have r650127 : z650125.toInt ≠ 0 := gj_neq hc650126 (show Int32.toInt 0 = 0 by decide)
              have lhc650126 := gC_cmpN hz650125 hc650126
              refine G_bipush 6 dr_cX14_number_108 (by decide +kernel) ?_
              refine Gp_put 3 hmq649561 he650121 dr_cX14_number_110 (gk_X14 D I) (Nat.le_of_ble_eq_true rfl) wr_9_39 rfl rfl rfl (Nat.le_of_ble_eq_true rfl) (fun F650128 e650129 n650130 => ?_)
              have he650131 : F650128 q649562 = .inl (I .byte, 8192, .inl f649577) := (n650130 q649562 (rn_ao he650120 he650121)).trans he650120
              have he650132 : F650128 q649561 = .inr (19, [.ref q649562, .int p649564, .int g650066, .int 6, .int p649567, .int z650116, .int p649569, .ref qo649570, .int p649571, .int p649572, .int p649573, .ref qo649574, .ref qo649575, .int p649576]) := e650129
              have hfr650133 : rFr [q649561] P649559 F649560 F650128 := rFr_put' List.mem_cons_self hfr650122 n650130
              exact G_vretA dr_cX14_number_113 rfl (show 0 ≤ ((16 * (p649564.toInt - p649565.toInt)).toNat) by omega) (show 0 ≤ ((256 * (p649564.toInt - p649565.toInt)).toNat) by omega) ⟨F650128, g650066, 6, z650116, rfl, rfl, hfr650133, he650132, he650131, (by omega), (by omega), (gB_w bg650066' (by decide) (by decide)), (gB_w (gBl (show Int32.toInt 6 = 6 by decide)) (by decide) (by decide)), (by have qa0 : Int32.toInt 6 = 6 := (by decide); omega), (by have qa0 : Int32.toInt 6 = 6 := (by decide); omega), (tP_no (by decide) (by decide)), (vP_no (by decide) (by decide))⟩
            · have r650134 : z650125.toInt = 0 := gj_eq hc650126 (show Int32.toInt 0 = 0 by decide)
              have bz650125' : gB z650125 0 0 := ⟨by omega, by omega⟩
              have lhc650126 := gC_cmpE hz650125 hc650126
              refine G_iconst 4 dr_cX14_number_104 (by decide +kernel) ?_
              refine G_goto 110 dr_cX14_number_105 (by decide +kernel) ?_
              refine Gp_put 3 hmq649561 he650121 dr_cX14_number_110 (gk_X14 D I) (Nat.le_of_ble_eq_true rfl) wr_9_39 rfl rfl rfl (Nat.le_of_ble_eq_true rfl) (fun F650135 e650136 n650137 => ?_)
              have he650138 : F650135 q649562 = .inl (I .byte, 8192, .inl f649577) := (n650137 q649562 (rn_ao he650120 he650121)).trans he650120
              have he650139 : F650135 q649561 = .inr (19, [.ref q649562, .int p649564, .int g650066, .int 4, .int p649567, .int z650116, .int p649569, .ref qo649570, .int p649571, .int p649572, .int p649573, .ref qo649574, .ref qo649575, .int p649576]) := e650136
              have hfr650140 : rFr [q649561] P649559 F649560 F650135 := rFr_put' List.mem_cons_self hfr650122 n650137
              exact G_vretA dr_cX14_number_113 rfl (show 0 ≤ ((16 * (p649564.toInt - p649565.toInt)).toNat) by omega) (show 0 ≤ ((256 * (p649564.toInt - p649565.toInt)).toNat) by omega) ⟨F650135, g650066, 4, z650116, rfl, rfl, hfr650140, he650139, he650138, (by omega), (by omega), (gB_w bg650066' (by decide) (by decide)), (gB_w (gBl (show Int32.toInt 4 = 4 by decide)) (by decide) (by decide)), (by have qa0 : Int32.toInt 4 = 4 := (by decide); omega), (by have qa0 : Int32.toInt 4 = 4 := (by decide); omega), (tP_no (by decide) (by decide)), (vP_no (by decide) (by decide))⟩
          · have r650141 : o650110.toInt ≠ 0 := gj_neq hc650112 (show Int32.toInt 0 = 0 by decide)
            have bo650110' : gB o650110 1 1 := ⟨by omega, by omega⟩
            have bi650142 : gB z650104 48 57 := isP_1 x650111 (by omega)
            refine G_lload_n 0 dr_cX14_number_42 rfl ?_
            refine G_ldc2 10 dr_cX14_number_43 wr_7_229 ?_
            refine G_lmul dr_cX14_number_46 (G_namL fun u650143 hu650143 => ?_)
            refine G_aload_n 1 dr_cX14_number_47 rfl ?_
            refine Gp_get 0 hmq649561 he650068 dr_cX14_number_48 (gk_X14 D I) (Nat.le_of_ble_eq_true rfl) wr_9_36 rfl ?_
            refine G_aload_n 1 dr_cX14_number_51 rfl ?_
            refine Gp_get 2 hmq649561 he650068 dr_cX14_number_52 (gk_X14 D I) (Nat.le_of_ble_eq_true rfl) wr_9_38 rfl ?_
            refine Gp_bald 1 hmq649562 he650069 dr_cX14_number_55 rfl (gB_in bg650066' (by decide) (by decide)) (G_eqi (y := z650104) hz650104.symm ?_)
            refine G_i2l dr_cX14_number_56 (G_namL fun u650144 hu650144 => ?_)
            refine G_ladd dr_cX14_number_57 (G_namL fun u650145 hu650145 => ?_)
            refine G_ldc2 48 dr_cX14_number_58 wr_7_230 ?_
            refine G_lsub dr_cX14_number_61 (G_namL fun u650146 hu650146 => ?_)
            refine G_ldc2 1099511627776 dr_cX14_number_62 wr_8_222 ?_
            refine Gw_callS (As := [.long u650146, .long 1099511627776]) (gV_ok D I) (cp_649672_Math_min l hl0 D I P649559 F650067 u650146 1099511627776 ) dr_cX14_number_65 ⟨wr_7_232, wr_1_6, wr_3_40, by decide, rfl, (Nat.le_of_ble_eq_true rfl), (Nat.le_of_ble_eq_true rfl)⟩ wr_3_39 (show 0 + 0 ≤ ((16 * (p649564.toInt - p649565.toInt)).toNat) by first | omega | decide) (show 0 + 0 ≤ ((256 * (p649564.toInt - p649565.toInt)).toNat) by first | omega | decide) (Nat.le_of_ble_eq_true rfl) (fun r650150 w650151 dc650147 ds650148 hp650149 => ?_) (fun _ _ _ _ _ z => z.elim)
            obtain ⟨ol650152, rfl, rfl, hdc, hds, x650153⟩ := hp650149
            change G _ _ _ _ _ _ _ (.long ol650152 :: _) _ _ _
            refine G_widen (cs' := 0) (sl' := 0) (by omega) (by omega) ?_
            refine G_lstore_n (L' := [(2, .long ol650152), (0, .ref q649561), (1, .int p649563)]) dr_cX14_number_68 (Nat.le_of_ble_eq_true rfl) rfl ?_
            refine G_aload_n 1 dr_cX14_number_69 rfl ?_
            refine G_dup dr_cX14_number_70 rfl ?_
            refine Gp_get 2 hmq649561 he650068 dr_cX14_number_71 (gk_X14 D I) (Nat.le_of_ble_eq_true rfl) wr_9_38 rfl ?_
            refine G_iconst 1 dr_cX14_number_74 (by decide +kernel) ?_
            refine G_iadd dr_cX14_number_75 (G_nam fun z650154 hz650154 => ?_)
            have ez650154 : z650154.toInt = g650066.toInt + 1 := by rw [gI_add hz650154 bg650066' (gBl (show Int32.toInt 1 = 1 by decide)) (by decide) (by decide), show Int32.toInt 1 = 1 from by decide]
            have bz650154 : gB z650154 1 8192 := gB_add (gI_add hz650154 bg650066' (gBl (show Int32.toInt 1 = 1 by decide)) (by decide) (by decide)) bg650066' (gBl (show Int32.toInt 1 = 1 by decide)) (by decide) (by decide)
            refine Gp_put 2 hmq649561 he650068 dr_cX14_number_76 (gk_X14 D I) (Nat.le_of_ble_eq_true rfl) wr_9_38 rfl rfl rfl (Nat.le_of_ble_eq_true rfl) (fun F650155 e650156 n650157 => ?_)
            have he650158 : F650155 q649562 = .inl (I .byte, 8192, .inl f649577) := (n650157 q649562 (rn_ao he650069 he650068)).trans he650069
            have he650159 : F650155 q649561 = .inr (19, [.ref q649562, .int p649564, .int z650154, .int p649566, .int p649567, .int p649568, .int p649569, .ref qo649570, .int p649571, .int p649572, .int p649573, .ref qo649574, .ref qo649575, .int p649576]) := e650156
            have hfr650160 : rFr [q649561] P649559 F649560 F650155 := rFr_put' List.mem_cons_self hfr650070 n650157
            refine G_goto 16 dr_cX14_number_79 (by decide +kernel) ?_
            exact ih16_650073 F650155 ol650152 z650154 (gB_w bz650154 (by decide) (by decide)) hfr650160 he650159 he650158 (by omega) (by omega) (by omega) (by omega)
    exact hlp16_650073 (((8193 : Int) - z649878.toInt).toNat + 1) F649879 0 z649878 ⟨by omega, by omega⟩ hfr649884 he649883 he649882 (by omega) (by omega) (by omega) (Nat.lt_succ_self _)
