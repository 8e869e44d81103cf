theorem dr_cJ6_getChars_ba4f3_0 : decode cJ6_getChars_ba4f3 0 = .ok (.iload_n 1, 1) := by decide +kernel
theorem dr_cJ6_getChars_ba4f3_1 : decode cJ6_getChars_ba4f3 1 = .ok (.istore 5, 2) := by decide +kernel
theorem dr_cJ6_getChars_ba4f3_3 : decode cJ6_getChars_ba4f3 3 = .ok (.iload_n 0, 1) := by decide +kernel
theorem dr_cJ6_getChars_ba4f3_4 : decode cJ6_getChars_ba4f3 4 = .ok (.ifCond .ge 7, 3) := by decide +kernel
theorem dr_cJ6_getChars_ba4f3_11 : decode cJ6_getChars_ba4f3 11 = .ok (.iconst 0, 1) := by decide +kernel
theorem dr_cJ6_getChars_ba4f3_12 : decode cJ6_getChars_ba4f3 12 = .ok (.istore 6, 2) := by decide +kernel
theorem dr_cJ6_getChars_ba4f3_14 : decode cJ6_getChars_ba4f3 14 = .ok (.iload 6, 2) := by decide +kernel
theorem dr_cJ6_getChars_ba4f3_16 : decode cJ6_getChars_ba4f3 16 = .ok (.ifCond .ne 6, 3) := by decide +kernel
theorem dr_cJ6_getChars_ba4f3_19 : decode cJ6_getChars_ba4f3 19 = .ok (.iload_n 0, 1) := by decide +kernel
theorem dr_cJ6_getChars_ba4f3_20 : decode cJ6_getChars_ba4f3 20 = .ok (.ineg, 1) := by decide +kernel
theorem dr_cJ6_getChars_ba4f3_21 : decode cJ6_getChars_ba4f3 21 = .ok (.istore_n 0, 1) := by decide +kernel
theorem dr_cJ6_getChars_ba4f3_22 : decode cJ6_getChars_ba4f3 22 = .ok (.iload_n 0, 1) := by decide +kernel
theorem dr_cJ6_getChars_ba4f3_23 : decode cJ6_getChars_ba4f3 23 = .ok (.bipush (-100), 2) := by decide +kernel
theorem dr_cJ6_getChars_ba4f3_25 : decode cJ6_getChars_ba4f3 25 = .ok (.if_icmp .gt 47, 3) := by decide +kernel
theorem dr_cJ6_getChars_ba4f3_72 : decode cJ6_getChars_ba4f3 72 = .ok (.aload_n 2, 1) := by decide +kernel
theorem dr_cJ6_getChars_ba4f3_73 : decode cJ6_getChars_ba4f3 73 = .ok (.iinc 5 (-1), 3) := by decide +kernel
theorem dr_cJ6_getChars_ba4f3_76 : decode cJ6_getChars_ba4f3 76 = .ok (.iload 5, 2) := by decide +kernel
theorem dr_cJ6_getChars_ba4f3_78 : decode cJ6_getChars_ba4f3 78 = .ok (.getstatic 83, 3) := by decide +kernel
theorem wr_8_118 : (Jvm.Cond.fieldLink "java/lang/Integer" (83 : Nat) "java/lang/Integer" "DigitOnes" "[B") ∈ gw := gw_8 118 rfl rfl
theorem dr_cJ6_getChars_ba4f3_81 : decode cJ6_getChars_ba4f3 81 = .ok (.iload_n 0, 1) := by decide +kernel
theorem dr_cJ6_getChars_ba4f3_82 : decode cJ6_getChars_ba4f3 82 = .ok (.ineg, 1) := by decide +kernel
theorem dr_cJ6_getChars_ba4f3_83 : decode cJ6_getChars_ba4f3 83 = .ok (.baload, 1) := by decide +kernel
theorem dr_cJ6_getChars_ba4f3_84 : decode cJ6_getChars_ba4f3 84 = .ok (.bastore, 1) := by decide +kernel
theorem dr_cJ6_getChars_ba4f3_85 : decode cJ6_getChars_ba4f3 85 = .ok (.iload_n 0, 1) := by decide +kernel
theorem dr_cJ6_getChars_ba4f3_86 : decode cJ6_getChars_ba4f3 86 = .ok (.bipush (-9), 2) := by decide +kernel
theorem dr_cJ6_getChars_ba4f3_88 : decode cJ6_getChars_ba4f3 88 = .ok (.if_icmp .ge 16, 3) := by decide +kernel
theorem dr_cJ6_getChars_ba4f3_104 : decode cJ6_getChars_ba4f3 104 = .ok (.iload 6, 2) := by decide +kernel
theorem dr_cJ6_getChars_ba4f3_106 : decode cJ6_getChars_ba4f3 106 = .ok (.ifCond .eq 12, 3) := by decide +kernel
theorem dr_cJ6_getChars_ba4f3_118 : decode cJ6_getChars_ba4f3 118 = .ok (.iload 5, 2) := by decide +kernel
theorem dr_cJ6_getChars_ba4f3_120 : decode cJ6_getChars_ba4f3 120 = .ok (.ireturn, 1) := by decide +kernel
theorem dr_cJ6_getChars_ba4f3_91 : decode cJ6_getChars_ba4f3 91 = .ok (.aload_n 2, 1) := by decide +kernel
theorem dr_cJ6_getChars_ba4f3_92 : decode cJ6_getChars_ba4f3 92 = .ok (.iinc 5 (-1), 3) := by decide +kernel
theorem dr_cJ6_getChars_ba4f3_95 : decode cJ6_getChars_ba4f3 95 = .ok (.iload 5, 2) := by decide +kernel
theorem dr_cJ6_getChars_ba4f3_97 : decode cJ6_getChars_ba4f3 97 = .ok (.getstatic 87, 3) := by decide +kernel
theorem wr_8_120 : (Jvm.Cond.fieldLink "java/lang/Integer" (87 : Nat) "java/lang/Integer" "DigitTens" "[B") ∈ gw := gw_8 120 rfl rfl
theorem dr_cJ6_getChars_ba4f3_100 : decode cJ6_getChars_ba4f3 100 = .ok (.iload_n 0, 1) := by decide +kernel
theorem dr_cJ6_getChars_ba4f3_101 : decode cJ6_getChars_ba4f3 101 = .ok (.ineg, 1) := by decide +kernel
theorem dr_cJ6_getChars_ba4f3_102 : decode cJ6_getChars_ba4f3 102 = .ok (.baload, 1) := by decide +kernel
theorem dr_cJ6_getChars_ba4f3_103 : decode cJ6_getChars_ba4f3 103 = .ok (.bastore, 1) := by decide +kernel
theorem dr_cJ6_getChars_ba4f3_28 : decode cJ6_getChars_ba4f3 28 = .ok (.iload_n 0, 1) := by decide +kernel
theorem dr_cJ6_getChars_ba4f3_29 : decode cJ6_getChars_ba4f3 29 = .ok (.bipush 100, 2) := by decide +kernel
theorem dr_cJ6_getChars_ba4f3_31 : decode cJ6_getChars_ba4f3 31 = .ok (.idiv, 1) := by decide +kernel
theorem dr_cJ6_getChars_ba4f3_32 : decode cJ6_getChars_ba4f3 32 = .ok (.istore_n 3, 1) := by decide +kernel
theorem dr_cJ6_getChars_ba4f3_33 : decode cJ6_getChars_ba4f3 33 = .ok (.iload_n 3, 1) := by decide +kernel
theorem dr_cJ6_getChars_ba4f3_34 : decode cJ6_getChars_ba4f3 34 = .ok (.bipush 100, 2) := by decide +kernel
theorem dr_cJ6_getChars_ba4f3_36 : decode cJ6_getChars_ba4f3 36 = .ok (.imul, 1) := by decide +kernel
theorem dr_cJ6_getChars_ba4f3_37 : decode cJ6_getChars_ba4f3 37 = .ok (.iload_n 0, 1) := by decide +kernel
theorem dr_cJ6_getChars_ba4f3_38 : decode cJ6_getChars_ba4f3 38 = .ok (.isub, 1) := by decide +kernel
theorem dr_cJ6_getChars_ba4f3_39 : decode cJ6_getChars_ba4f3 39 = .ok (.istore 4, 2) := by decide +kernel
theorem dr_cJ6_getChars_ba4f3_41 : decode cJ6_getChars_ba4f3 41 = .ok (.iload_n 3, 1) := by decide +kernel
theorem dr_cJ6_getChars_ba4f3_42 : decode cJ6_getChars_ba4f3 42 = .ok (.istore_n 0, 1) := by decide +kernel
theorem dr_cJ6_getChars_ba4f3_43 : decode cJ6_getChars_ba4f3 43 = .ok (.aload_n 2, 1) := by decide +kernel
theorem dr_cJ6_getChars_ba4f3_44 : decode cJ6_getChars_ba4f3 44 = .ok (.iinc 5 (-1), 3) := by decide +kernel
theorem dr_cJ6_getChars_ba4f3_47 : decode cJ6_getChars_ba4f3 47 = .ok (.iload 5, 2) := by decide +kernel
theorem dr_cJ6_getChars_ba4f3_49 : decode cJ6_getChars_ba4f3 49 = .ok (.getstatic 83, 3) := by decide +kernel
theorem dr_cJ6_getChars_ba4f3_52 : decode cJ6_getChars_ba4f3 52 = .ok (.iload 4, 2) := by decide +kernel
theorem dr_cJ6_getChars_ba4f3_54 : decode cJ6_getChars_ba4f3 54 = .ok (.baload, 1) := by decide +kernel
theorem dr_cJ6_getChars_ba4f3_55 : decode cJ6_getChars_ba4f3 55 = .ok (.bastore, 1) := by decide +kernel
theorem dr_cJ6_getChars_ba4f3_56 : decode cJ6_getChars_ba4f3 56 = .ok (.aload_n 2, 1) := by decide +kernel
theorem dr_cJ6_getChars_ba4f3_57 : decode cJ6_getChars_ba4f3 57 = .ok (.iinc 5 (-1), 3) := by decide +kernel
theorem dr_cJ6_getChars_ba4f3_60 : decode cJ6_getChars_ba4f3 60 = .ok (.iload 5, 2) := by decide +kernel
theorem dr_cJ6_getChars_ba4f3_62 : decode cJ6_getChars_ba4f3 62 = .ok (.getstatic 87, 3) := by decide +kernel
theorem dr_cJ6_getChars_ba4f3_65 : decode cJ6_getChars_ba4f3 65 = .ok (.iload 4, 2) := by decide +kernel
theorem dr_cJ6_getChars_ba4f3_67 : decode cJ6_getChars_ba4f3 67 = .ok (.baload, 1) := by decide +kernel
theorem dr_cJ6_getChars_ba4f3_68 : decode cJ6_getChars_ba4f3 68 = .ok (.bastore, 1) := by decide +kernel
theorem dr_cJ6_getChars_ba4f3_69 : decode cJ6_getChars_ba4f3 69 = .ok (.goto (-47), 3) := by decide +kernel
theorem dr_cJ6_getChars_ba4f3_7 : decode cJ6_getChars_ba4f3 7 = .ok (.iconst 1, 1) := by decide +kernel
theorem dr_cJ6_getChars_ba4f3_8 : decode cJ6_getChars_ba4f3 8 = .ok (.goto 4, 3) := by decide +kernel
theorem dr_cJ6_getChars_ba4f3_109 : decode cJ6_getChars_ba4f3 109 = .ok (.aload_n 2, 1) := by decide +kernel
theorem dr_cJ6_getChars_ba4f3_110 : decode cJ6_getChars_ba4f3 110 = .ok (.iinc 5 (-1), 3) := by decide +kernel
theorem dr_cJ6_getChars_ba4f3_113 : decode cJ6_getChars_ba4f3 113 = .ok (.iload 5, 2) := by decide +kernel
theorem dr_cJ6_getChars_ba4f3_115 : decode cJ6_getChars_ba4f3 115 = .ok (.bipush 45, 2) := by decide +kernel
theorem dr_cJ6_getChars_ba4f3_117 : decode cJ6_getChars_ba4f3 117 = .ok (.bastore, 1) := by decide +kernel
theorem dr_cJ5_append_c97b9_0 : decode cJ5_append_c97b9 0 = .ok (.aload_n 0, 1) := by decide +kernel
theorem dr_cJ5_append_c97b9_1 : decode cJ5_append_c97b9 1 = .ok (.getfield 79, 3) := by decide +kernel
theorem dr_cJ5_append_c97b9_4 : decode cJ5_append_c97b9 4 = .ok (.istore_n 2, 1) := by decide +kernel
theorem dr_cJ5_append_c97b9_5 : decode cJ5_append_c97b9 5 = .ok (.iload_n 2, 1) := by decide +kernel
theorem dr_cJ5_append_c97b9_6 : decode cJ5_append_c97b9 6 = .ok (.iload_n 1, 1) := by decide +kernel
theorem dr_cJ5_append_c97b9_7 : decode cJ5_append_c97b9 7 = .ok (.invokestatic 245, 3) := by decide +kernel
theorem wr_8_112 : (Jvm.Cond.methodLink "java/lang/AbstractStringBuilder" (245 : Nat) ({ cls := "java/lang/Integer", name := "stringSize", desc := "(I)I" } : Jvm.MethodName)) ∈ gw := gw_8 112 rfl rfl
theorem wr_8_114 : (Jvm.Cond.code ({ cls := "java/lang/Integer", name := "stringSize", desc := "(I)I" } : Jvm.MethodName) prog_29_method_13_code (4 : Nat) (Option.some Jvm.ClassFile.FieldType.int)) ∈ gw := gw_8 114 rfl rfl
theorem wr_8_113 : (Jvm.Cond.static ({ cls := "java/lang/Integer", name := "stringSize", desc := "(I)I" } : Jvm.MethodName)) ∈ gw := gw_8 113 rfl rfl
theorem dr_cJ5_append_c97b9_10 : decode cJ5_append_c97b9 10 = .ok (.iadd, 1) := by decide +kernel
theorem dr_cJ5_append_c97b9_11 : decode cJ5_append_c97b9 11 = .ok (.istore_n 3, 1) := by decide +kernel
theorem dr_cJ5_append_c97b9_12 : decode cJ5_append_c97b9 12 = .ok (.aload_n 0, 1) := by decide +kernel
theorem dr_cJ5_append_c97b9_13 : decode cJ5_append_c97b9 13 = .ok (.iload_n 3, 1) := by decide +kernel
theorem dr_cJ5_append_c97b9_14 : decode cJ5_append_c97b9 14 = .ok (.invokevirtual 100, 3) := by decide +kernel
theorem dr_cJ5_append_c97b9_17 : decode cJ5_append_c97b9 17 = .ok (.aload_n 0, 1) := by decide +kernel
theorem dr_cJ5_append_c97b9_18 : decode cJ5_append_c97b9 18 = .ok (.invokevirtual 83, 3) := by decide +kernel
theorem dr_cJ5_append_c97b9_21 : decode cJ5_append_c97b9 21 = .ok (.ifCond .eq 16, 3) := by decide +kernel
theorem dr_cJ5_append_c97b9_24 : decode cJ5_append_c97b9 24 = .ok (.iload_n 1, 1) := by decide +kernel
theorem dr_cJ5_append_c97b9_25 : decode cJ5_append_c97b9 25 = .ok (.iload_n 3, 1) := by decide +kernel
theorem dr_cJ5_append_c97b9_26 : decode cJ5_append_c97b9 26 = .ok (.aload_n 0, 1) := by decide +kernel
theorem dr_cJ5_append_c97b9_27 : decode cJ5_append_c97b9 27 = .ok (.getfield 15, 3) := by decide +kernel
theorem dr_cJ5_append_c97b9_30 : decode cJ5_append_c97b9 30 = .ok (.invokestatic 248, 3) := by decide +kernel
theorem wr_8_115 : (Jvm.Cond.methodLink "java/lang/AbstractStringBuilder" (248 : Nat) ({ cls := "java/lang/Integer", name := "getChars", desc := "(II[B)I" } : Jvm.MethodName)) ∈ gw := gw_8 115 rfl rfl
theorem wr_8_117 : (Jvm.Cond.code ({ cls := "java/lang/Integer", name := "getChars", desc := "(II[B)I" } : Jvm.MethodName) prog_29_method_12_code (7 : Nat) (Option.some Jvm.ClassFile.FieldType.int)) ∈ gw := gw_8 117 rfl rfl
theorem wr_8_116 : (Jvm.Cond.static ({ cls := "java/lang/Integer", name := "getChars", desc := "(II[B)I" } : Jvm.MethodName)) ∈ gw := gw_8 116 rfl rfl
theorem dr_cJ5_append_c97b9_33 : decode cJ5_append_c97b9 33 = .ok (.pop, 1) := by decide +kernel
theorem dr_cJ5_append_c97b9_34 : decode cJ5_append_c97b9 34 = .ok (.goto 14, 3) := by decide +kernel
theorem dr_cJ5_append_c97b9_48 : decode cJ5_append_c97b9 48 = .ok (.aload_n 0, 1) := by decide +kernel
theorem dr_cJ5_append_c97b9_49 : decode cJ5_append_c97b9 49 = .ok (.iload_n 3, 1) := by decide +kernel
theorem dr_cJ5_append_c97b9_50 : decode cJ5_append_c97b9 50 = .ok (.putfield 79, 3) := by decide +kernel
theorem dr_cJ5_append_c97b9_53 : decode cJ5_append_c97b9 53 = .ok (.aload_n 0, 1) := by decide +kernel
theorem dr_cJ5_append_c97b9_54 : decode cJ5_append_c97b9 54 = .ok (.areturn, 1) := by decide +kernel
theorem dr_cJ4_append_bf812_0 : decode cJ4_append_bf812 0 = .ok (.aload_n 0, 1) := by decide +kernel
theorem dr_cJ4_append_bf812_1 : decode cJ4_append_bf812 1 = .ok (.iload_n 1, 1) := by decide +kernel
theorem dr_cJ4_append_bf812_2 : decode cJ4_append_bf812 2 = .ok (.invokespecial 53, 3) := by decide +kernel
theorem wr_8_109 : (Jvm.Cond.methodLink "java/lang/StringBuilder" (53 : Nat) ({ cls := "java/lang/AbstractStringBuilder", name := "append", desc := "(I)Ljava/lang/AbstractStringBuilder;" } : Jvm.MethodName)) ∈ gw := gw_8 109 rfl rfl
theorem wr_8_111 : (Jvm.Cond.code ({ cls := "java/lang/AbstractStringBuilder", name := "append", desc := "(I)Ljava/lang/AbstractStringBuilder;" } : Jvm.MethodName) prog_21_method_32_code (4 : Nat) (Option.some (Jvm.ClassFile.FieldType.object "java/lang/AbstractStringBuilder"))) ∈ gw := gw_8 111 rfl rfl
theorem wr_8_110 : (Jvm.Cond.instanceMethod ({ cls := "java/lang/AbstractStringBuilder", name := "append", desc := "(I)Ljava/lang/AbstractStringBuilder;" } : Jvm.MethodName)) ∈ gw := gw_8 110 rfl rfl
theorem wr_11_228 : (Jvm.Cond.sameMethod "java/lang/AbstractStringBuilder" "java/lang/AbstractStringBuilder" "append" "(I)Ljava/lang/AbstractStringBuilder;") ∈ gw := gw_11 228 rfl rfl
theorem dr_cJ4_append_bf812_5 : decode cJ4_append_bf812 5 = .ok (.pop, 1) := by decide +kernel
theorem dr_cJ4_append_bf812_6 : decode cJ4_append_bf812 6 = .ok (.aload_n 0, 1) := by decide +kernel
theorem dr_cJ4_append_bf812_7 : decode cJ4_append_bf812 7 = .ok (.areturn, 1) := by decide +kernel
theorem dr_cJ9_min_f86c9_0 : decode cJ9_min_f86c9 0 = .ok (.lload_n 0, 1) := by decide +kernel
theorem dr_cJ9_min_f86c9_1 : decode cJ9_min_f86c9 1 = .ok (.lload_n 2, 1) := by decide +kernel
theorem dr_cJ9_min_f86c9_2 : decode cJ9_min_f86c9 2 = .ok (.lcmp, 1) := by decide +kernel
theorem dr_cJ9_min_f86c9_3 : decode cJ9_min_f86c9 3 = .ok (.ifCond .gt 7, 3) := by decide +kernel
theorem dr_cJ9_min_f86c9_10 : decode cJ9_min_f86c9 10 = .ok (.lload_n 2, 1) := by decide +kernel
theorem dr_cJ9_min_f86c9_11 : decode cJ9_min_f86c9 11 = .ok (.lreturn, 1) := by decide +kernel
theorem dr_cJ9_min_f86c9_6 : decode cJ9_min_f86c9 6 = .ok (.lload_n 0, 1) := by decide +kernel
theorem dr_cJ9_min_f86c9_7 : decode cJ9_min_f86c9 7 = .ok (.goto 4, 3) := by decide +kernel
abbrev ky_664855_Integer_getChars : gKey := (cJ6_getChars_ba4f3, 7, "java/lang/Integer", (some FieldType.int), [], "getChars", fun _ _ => True)
def pp_664855_Integer_getChars (D : va_G) (I : FieldType → ClassId) (P664845 : List Nat) (F664846 : Nat → va_E) (q664847 : Nat) (p664848 : Int32) (p664849 : Int32) (f664850 : Nat → Int32) (n664851 : Nat) : Option Value → va_W → Nat → Nat → Prop := fun r w dc ds => ∃ (F665249 : Nat → va_E) (o665247 : Int32) (f665246 : Nat → Int32), r = some (.int o665247) ∧ w = va_pl P664845 F665249 ∧ rFr [q664847] P664845 F664846 F665249 ∧ F665249 q664847 = .inl (I .byte, n664851, .inl f665246) ∧ dc ≤ 0 ∧ ds ≤ 0 ∧ gB o665247 0 16777215 ∧ gF f665246 (-128) 127 ∧ tr_RInteger_getChars p664848 p664849 f664850 o665247 f665246
set_option maxRecDepth 100000 in
set_option maxHeartbeats 4000000 in
theorem cp_664855_Integer_getChars (l : Launch) (hl0 : l.stackTraces = false) (D : va_G) (I : FieldType → ClassId) (P664845 : List Nat) (F664846 : Nat → va_E) (q664847 : Nat) (p664848 : Int32) (p664849 : Int32) (f664850 : Nat → Int32) (n664851 : Nat) (hmq664847 : q664847 ∈ P664845) (heq664847 : F664846 q664847 = .inl (I .byte, n664851, .inl f664850)) (bp664849 : gB p664849 0 16777216) (bf664850 : gF f664850 (-128) 127) (x664852 : p664849.toInt ≤ (n664851 : Int)) (x664853 : dgS p664848.toInt p664849.toInt) (x664854 : ((n664851 : Int) ≤ 16777216)) : CtA (gV D I) l yJ6_getChars_ba4f3 cJ6_getChars_ba4f3 7 (some FieldType.int) 0 0 0 0 [.int p664848, .int p664849, .ref q664847] (va_pl P664845 F664846) (pp_664855_Integer_getChars D I P664845 F664846 q664847 p664848 p664849 f664850 n664851) gNA := by
  refine CtA_ofF hl0 (by decide +kernel) (Nat.le_of_ble_eq_true rfl) ?_
  have bp664848 := gB_any p664848
  refine G_iload_n 1 dr_cJ6_getChars_ba4f3_0 rfl ?_
  refine G_istore (L' := [(5, .int p664849), (0, .int p664848), (1, .int p664849), (2, .ref q664847)]) dr_cJ6_getChars_ba4f3_1 (Nat.le_of_ble_eq_true rfl) rfl ?_
  refine G_iload_n 1 dr_cJ6_getChars_ba4f3_3 rfl ?_
  refine G_if_ge 11 dr_cJ6_getChars_ba4f3_4 (by decide +kernel) (fun hc664856 => ?_) (fun hc664856 => ?_)
  · have r664857 : 0 ≤ p664848.toInt := gj_leL hc664856 (show Int32.toInt 0 = 0 by decide)
    have bp664848' : gB p664848 0 2147483647 := ⟨by omega, by omega⟩
    refine G_iconst 0 dr_cJ6_getChars_ba4f3_11 (by decide +kernel) ?_
    refine G_istore (L' := [(6, .int 0), (5, .int p664849), (0, .int p664848), (1, .int p664849), (2, .ref q664847)]) dr_cJ6_getChars_ba4f3_12 (Nat.le_of_ble_eq_true rfl) rfl ?_
    refine G_iload 0 dr_cJ6_getChars_ba4f3_14 rfl ?_
    refine G_if_ne 22 dr_cJ6_getChars_ba4f3_16 (by decide +kernel) (fun hc => absurd hc (by decide)) (fun _ => ?_)
    refine G_iload_n 2 dr_cJ6_getChars_ba4f3_19 rfl ?_
    refine G_ineg dr_cJ6_getChars_ba4f3_20 (G_nam fun z664858 hz664858 => ?_)
    have ez664858 : z664858.toInt = -p664848.toInt := gI_neg hz664858 bp664848' (by decide)
    have bz664858 : gB z664858 (-2147483647) 0 := ⟨by omega, by omega⟩
    refine G_istore_n (L' := [(0, .int z664858), (6, .int 0), (5, .int p664849), (1, .int p664849), (2, .ref q664847)]) dr_cJ6_getChars_ba4f3_21 (Nat.le_of_ble_eq_true rfl) rfl ?_
    have hlp22_664975 : ∀ (n22_664975 : Nat) (F664970 : Nat → va_E) (g664967 : Int32) (g664968 : Int32) (f664969 : Nat → Int32), gB g664967 (-2147483647) 0 → gB g664968 0 16777216 → gF f664969 (-128) 127 → rFr [q664847] P664845 F664846 F664970 → F664970 q664847 = .inl (I .byte, n664851, .inl f664969) → g664967.toInt ≤ 0 → dgB g664967.toInt (g664968.toInt - 0) → g664968.toInt ≤ p664849.toInt → (∀ (k : Nat) (e1 : Int32) (e2 : Int32) (e3 : Nat → Int32), tl_RInteger_getChars_22 g664967 g664968 f664969 k e1 e2 e3 → tl_RInteger_getChars_22 z664858 p664849 f664850 k e1 e2 e3) → (-g664967.toInt).toNat < n22_664975 → G (gV D I) l (gRm 0 0 0 0) (gMA (gV D I) (pp_664855_Integer_getChars D I P664845 F664846 q664847 p664848 p664849 f664850 n664851) gNA 0 0) ky_664855_Integer_getChars 22 [(0, .int g664967), (6, .int 0), (5, .int g664968), (1, .int p664849), (2, .ref q664847)] [] (va_pl P664845 F664970) 0 0 := by
      intro n22_664975
      induction n22_664975 with
      | zero => intro F664970 g664967 g664968 f664969 bg664967 bg664968 bf664969 hfr664972 he664971 x664973 x664974 x664975 kt22_664975 hm22_664975; exact absurd hm22_664975 (Nat.not_lt_zero _)
      | succ n22_664975 ih22_664975 =>
        intro F664970 g664967 g664968 f664969 bg664967 bg664968 bf664969 hfr664972 he664971 x664973 x664974 x664975 kt22_664975 hm22_664975
        refine G_iload_n 0 dr_cJ6_getChars_ba4f3_22 rfl ?_
        refine G_bipush (-100) dr_cJ6_getChars_ba4f3_23 (by decide +kernel) ?_
        refine G_icmp_gt 72 dr_cJ6_getChars_ba4f3_25 (by decide +kernel) (fun hc664976 => ?_) (fun hc664976 => ?_)
        · have r664977 : (-100) < g664967.toInt := gj_ltL hc664976 (show Int32.toInt (-100) = (-100) by decide)
          have bg664967' : gB g664967 (-99) 0 := ⟨by omega, by omega⟩
          have hx664978 : tl_RInteger_getChars_22 z664858 p664849 f664850 72 g664967 g664968 f664969 := kt22_664975 72 g664967 g664968 f664969 (fun R c1 c2 => c1 g664967 g664968 f664969 bg664967 bg664968 r664977)
          have x664979 : (1 : Int) ≤ (g664968.toInt - 0) := dgB_1 x664974
          refine G_aload_n 4 dr_cJ6_getChars_ba4f3_72 rfl ?_
          have bg664968' : gB g664968 1 16777216 := ⟨by omega, by omega⟩
          obtain ⟨z664980, hz664980⟩ : ∃ z : Int32, z = g664968 + Int32.ofInt (-1) := ⟨_, rfl⟩
          have ez664980 : z664980.toInt = g664968.toInt + (-1) := gI_inc hz664980 (by decide) bg664968' (by decide) (by decide)
          have bz664980 : gB z664980 0 16777215 := ⟨by omega, by omega⟩
          refine G_iinc (L' := [(5, .int z664980), (0, .int g664967), (6, .int 0), (1, .int p664849), (2, .ref q664847)]) z664980 2 dr_cJ6_getChars_ba4f3_73 rfl hz664980.symm (Nat.le_of_ble_eq_true rfl) rfl ?_
          refine G_iload 0 dr_cJ6_getChars_ba4f3_76 rfl ?_
          refine G_gets dr_cJ6_getChars_ba4f3_78 wr_8_118 gr_on (fun x664982 hx664981 => ?_)
          subst hx664981
          refine G_iload_n 1 dr_cJ6_getChars_ba4f3_81 rfl ?_
          refine G_ineg dr_cJ6_getChars_ba4f3_82 (G_nam fun z664983 hz664983 => ?_)
          have ez664983 : z664983.toInt = -g664967.toInt := gI_neg hz664983 bg664967' (by decide)
          have bz664983 : gB z664983 0 99 := ⟨by omega, by omega⟩
          refine G_kbald (f := dg_O) dr_cJ6_getChars_ba4f3_83 gr_ont (gB_inr (by omega) (by omega)) (G_nam fun z664984 hz664984 => ?_)
          have bz664984 : gB z664984 (-2147483648) 2147483647 := gB_any z664984
          refine Gp_bast 1 hmq664847 he664971 dr_cJ6_getChars_ba4f3_84 rfl (gB_inr (by omega) (by omega)) (fun F664985 e664986 n664987 => ?_)
          obtain ⟨f664988, hf664988⟩ : ∃ z, z = upd f664969 z664980.toNatClampNeg (vp_nar .byte z664984) := ⟨_, rfl⟩
          rw [← hf664988] at e664986
          have he664989 : F664985 q664847 = .inl (I .byte, n664851, .inl f664988) := e664986
          have hfr664990 : rFr [q664847] P664845 F664846 F664985 := rFr_put' List.mem_cons_self hfr664972 n664987
          have bf664988 : gF f664988 (-128) 127 := gF_upd hf664988 bf664969 gB_byte
          refine G_iload_n 1 dr_cJ6_getChars_ba4f3_85 rfl ?_
          refine G_bipush (-9) dr_cJ6_getChars_ba4f3_86 (by decide +kernel) ?_
          refine G_icmp_ge 104 dr_cJ6_getChars_ba4f3_88 (by decide +kernel) (fun hc664991 => ?_) (fun hc664991 => ?_)
          · have r664992 : (-9) ≤ g664967.toInt := gj_leL hc664991 (show Int32.toInt (-9) = (-9) by decide)
            have bg664967'' : gB g664967 (-9) 0 := ⟨by omega, by omega⟩
            refine G_iload 2 dr_cJ6_getChars_ba4f3_104 rfl ?_
            refine G_if_eq 118 dr_cJ6_getChars_ba4f3_106 (by decide +kernel) (fun _ => ?_) (fun hc => absurd hc (by decide))
            refine G_iload 0 dr_cJ6_getChars_ba4f3_118 rfl ?_
            exact G_iretA dr_cJ6_getChars_ba4f3_120 rfl (Nat.le_of_ble_eq_true rfl) (Nat.le_of_ble_eq_true rfl) ⟨F664985, z664980, f664988, rfl, rfl, hfr664990, he664989, (Nat.le_of_ble_eq_true rfl), (Nat.le_of_ble_eq_true rfl), bz664980, bf664988, (fun R c1 c2 c3 c4 => c1 z664858 g664967 g664968 f664969 z664980 z664983 z664984 f664988 r664857 hz664858 hx664978 ez664980 hz664983 hz664984 hf664988 r664992)⟩
          · have r664993 : g664967.toInt < (-9) := gj_nleL hc664991 (show Int32.toInt (-9) = (-9) by decide)
            have bg664967'' : gB g664967 (-99) (-10) := ⟨by omega, by omega⟩
            have x664994 : (2 : Int) ≤ (g664968.toInt - 0) := dgB_2 x664974 (by omega)
            refine G_aload_n 4 dr_cJ6_getChars_ba4f3_91 rfl ?_
            have bz664980' : gB z664980 1 16777215 := ⟨by omega, by omega⟩
            obtain ⟨z664995, hz664995⟩ : ∃ z : Int32, z = z664980 + Int32.ofInt (-1) := ⟨_, rfl⟩
            have ez664995 : z664995.toInt = z664980.toInt + (-1) := gI_inc hz664995 (by decide) bz664980' (by decide) (by decide)
            have bz664995 : gB z664995 0 16777214 := ⟨by omega, by omega⟩
            refine G_iinc (L' := [(5, .int z664995), (0, .int g664967), (6, .int 0), (1, .int p664849), (2, .ref q664847)]) z664995 0 dr_cJ6_getChars_ba4f3_92 rfl hz664995.symm (Nat.le_of_ble_eq_true rfl) rfl ?_
            refine G_iload 0 dr_cJ6_getChars_ba4f3_95 rfl ?_
            refine G_gets dr_cJ6_getChars_ba4f3_97 wr_8_120 gr_te (fun x664997 hx664996 => ?_)
            subst hx664996
            refine G_iload_n 1 dr_cJ6_getChars_ba4f3_100 rfl ?_
            refine G_ineg dr_cJ6_getChars_ba4f3_101 (G_nam fun z664998 hz664998 => ?_)
            have ez664998 : z664998.toInt = -g664967.toInt := gI_neg hz664998 bg664967'' (by decide)
            have bz664998 : gB z664998 10 99 := ⟨by omega, by omega⟩
            refine G_kbald (f := dg_T) dr_cJ6_getChars_ba4f3_102 gr_tet (gB_inr (by omega) (by omega)) (G_nam fun z664999 hz664999 => ?_)
            have bz664999 : gB z664999 (-2147483648) 2147483647 := gB_any z664999
            refine Gp_bast 1 hmq664847 he664989 dr_cJ6_getChars_ba4f3_103 rfl (gB_inr (by omega) (by omega)) (fun F665000 e665001 n665002 => ?_)
            obtain ⟨f665003, hf665003⟩ : ∃ z, z = upd f664988 z664995.toNatClampNeg (vp_nar .byte z664999) := ⟨_, rfl⟩
            rw [← hf665003] at e665001
            have he665004 : F665000 q664847 = .inl (I .byte, n664851, .inl f665003) := e665001
            have hfr665005 : rFr [q664847] P664845 F664846 F665000 := rFr_put' List.mem_cons_self hfr664990 n665002
            have bf665003 : gF f665003 (-128) 127 := gF_upd hf665003 bf664988 gB_byte
            refine G_iload 2 dr_cJ6_getChars_ba4f3_104 rfl ?_
            refine G_if_eq 118 dr_cJ6_getChars_ba4f3_106 (by decide +kernel) (fun _ => ?_) (fun hc => absurd hc (by decide))
            refine G_iload 0 dr_cJ6_getChars_ba4f3_118 rfl ?_
            exact G_iretA dr_cJ6_getChars_ba4f3_120 rfl (Nat.le_of_ble_eq_true rfl) (Nat.le_of_ble_eq_true rfl) ⟨F665000, z664995, f665003, rfl, rfl, hfr665005, he665004, (Nat.le_of_ble_eq_true rfl), (Nat.le_of_ble_eq_true rfl), (gB_w bz664995 (by decide) (by decide)), bf665003, (fun R c1 c2 c3 c4 => c2 z664858 g664967 g664968 f664969 z664980 z664983 z664984 f664988 z664995 z664998 z664999 f665003 r664857 hz664858 hx664978 ez664980 hz664983 hz664984 hf664988 r664993 ez664995 hz664998 hz664999 hf665003)⟩
        · have r665006 : g664967.toInt ≤ (-100) := gj_nltL hc664976 (show Int32.toInt (-100) = (-100) by decide)
          have bg664967' : gB g664967 (-2147483647) (-100) := ⟨by omega, by omega⟩
          have x665007 : (3 : Int) ≤ (g664968.toInt - 0) := dgB_3 x664974 (by omega)
          refine G_iload_n 0 dr_cJ6_getChars_ba4f3_28 rfl ?_
          refine G_bipush 100 dr_cJ6_getChars_ba4f3_29 (by decide +kernel) ?_
          refine G_idiv dr_cJ6_getChars_ba4f3_31 (by decide) (G_nam fun z665008 hz665008 => ?_)
          have ez665008 : z665008.toInt = -((-g664967.toInt) / 100) := gI_divn hz665008 bg664967' (by decide) (by decide) (by decide)
          have bz665008 : gB z665008 (-21474836) (-1) := ⟨by omega, by omega⟩
          refine G_istore_n (L' := [(3, .int z665008), (0, .int g664967), (6, .int 0), (5, .int g664968), (1, .int p664849), (2, .ref q664847)]) dr_cJ6_getChars_ba4f3_32 (Nat.le_of_ble_eq_true rfl) rfl ?_
          refine G_iload_n 0 dr_cJ6_getChars_ba4f3_33 rfl ?_
          refine G_bipush 100 dr_cJ6_getChars_ba4f3_34 (by decide +kernel) ?_
          refine G_imul dr_cJ6_getChars_ba4f3_36 (G_nam fun z665009 hz665009 => ?_)
          have ez665009 : z665009.toInt = z665008.toInt * 100 := gI_mulK hz665009 (by decide) (by omega) (by omega)
          have bz665009 : gB z665009 (-2147483600) (-100) := ⟨by omega, by omega⟩
          refine G_iload_n 1 dr_cJ6_getChars_ba4f3_37 rfl ?_
          refine G_isub dr_cJ6_getChars_ba4f3_38 (G_nam fun z665010 hz665010 => ?_)
          have ez665010 : z665010.toInt = z665009.toInt - g664967.toInt := by rw [gI_sub hz665010 bz665009 bg664967' (by decide) (by decide)]
          have bz665010 : gB z665010 (-2147483500) 2147483547 := gB_sub (gI_sub hz665010 bz665009 bg664967' (by decide) (by decide)) bz665009 bg664967' (by decide) (by decide)
          refine G_istore (L' := [(4, .int z665010), (3, .int z665008), (0, .int g664967), (6, .int 0), (5, .int g664968), (1, .int p664849), (2, .ref q664847)]) dr_cJ6_getChars_ba4f3_39 (Nat.le_of_ble_eq_true rfl) rfl ?_
          refine G_iload_n 1 dr_cJ6_getChars_ba4f3_41 rfl ?_
          refine G_istore_n (L' := [(0, .int z665008), (4, .int z665010), (3, .int z665008), (6, .int 0), (5, .int g664968), (1, .int p664849), (2, .ref q664847)]) dr_cJ6_getChars_ba4f3_42 (Nat.le_of_ble_eq_true rfl) rfl ?_
          refine G_aload_n 6 dr_cJ6_getChars_ba4f3_43 rfl ?_
          have bg664968' : gB g664968 2 16777216 := ⟨by omega, by omega⟩
          obtain ⟨z665011, hz665011⟩ : ∃ z : Int32, z = g664968 + Int32.ofInt (-1) := ⟨_, rfl⟩
          have ez665011 : z665011.toInt = g664968.toInt + (-1) := gI_inc hz665011 (by decide) bg664968' (by decide) (by decide)
          have bz665011 : gB z665011 1 16777215 := ⟨by omega, by omega⟩
          refine G_iinc (L' := [(5, .int z665011), (0, .int z665008), (4, .int z665010), (3, .int z665008), (6, .int 0), (1, .int p664849), (2, .ref q664847)]) z665011 4 dr_cJ6_getChars_ba4f3_44 rfl hz665011.symm (Nat.le_of_ble_eq_true rfl) rfl ?_
          refine G_iload 0 dr_cJ6_getChars_ba4f3_47 rfl ?_
          refine G_gets dr_cJ6_getChars_ba4f3_49 wr_8_118 gr_on (fun x665013 hx665012 => ?_)
          subst hx665012
          refine G_iload 2 dr_cJ6_getChars_ba4f3_52 rfl ?_
          refine G_kbald (f := dg_O) dr_cJ6_getChars_ba4f3_54 gr_ont (gB_inr (by omega) (by omega)) (G_nam fun z665014 hz665014 => ?_)
          have bz665014 : gB z665014 (-2147483648) 2147483647 := gB_any z665014
          refine Gp_bast 1 hmq664847 he664971 dr_cJ6_getChars_ba4f3_55 rfl (gB_inr (by omega) (by omega)) (fun F665015 e665016 n665017 => ?_)
          obtain ⟨f665018, hf665018⟩ : ∃ z, z = upd f664969 z665011.toNatClampNeg (vp_nar .byte z665014) := ⟨_, rfl⟩
          rw [← hf665018] at e665016
          have he665019 : F665015 q664847 = .inl (I .byte, n664851, .inl f665018) := e665016
          have hfr665020 : rFr [q664847] P664845 F664846 F665015 := rFr_put' List.mem_cons_self hfr664972 n665017
          have bf665018 : gF f665018 (-128) 127 := gF_upd hf665018 bf664969 gB_byte
          refine G_aload_n 6 dr_cJ6_getChars_ba4f3_56 rfl ?_
          obtain ⟨z665021, hz665021⟩ : ∃ z : Int32, z = z665011 + Int32.ofInt (-1) := ⟨_, rfl⟩
          have ez665021 : z665021.toInt = z665011.toInt + (-1) := gI_inc hz665021 (by decide) bz665011 (by decide) (by decide)
          have bz665021 : gB z665021 0 16777214 := ⟨by omega, by omega⟩
          refine G_iinc (L' := [(5, .int z665021), (0, .int z665008), (4, .int z665010), (3, .int z665008), (6, .int 0), (1, .int p664849), (2, .ref q664847)]) z665021 0 dr_cJ6_getChars_ba4f3_57 rfl hz665021.symm (Nat.le_of_ble_eq_true rfl) rfl ?_
          refine G_iload 0 dr_cJ6_getChars_ba4f3_60 rfl ?_
          refine G_gets dr_cJ6_getChars_ba4f3_62 wr_8_120 gr_te (fun x665023 hx665022 => ?_)
          subst hx665022
          refine G_iload 2 dr_cJ6_getChars_ba4f3_65 rfl ?_
          refine G_kbald (f := dg_T) dr_cJ6_getChars_ba4f3_67 gr_tet (gB_inr (by omega) (by omega)) (G_nam fun z665024 hz665024 => ?_)
          have bz665024 : gB z665024 (-2147483648) 2147483647 := gB_any z665024
          refine Gp_bast 1 hmq664847 he665019 dr_cJ6_getChars_ba4f3_68 rfl (gB_inr (by omega) (by omega)) (fun F665025 e665026 n665027 => ?_)
          obtain ⟨f665028, hf665028⟩ : ∃ z, z = upd f665018 z665021.toNatClampNeg (vp_nar .byte z665024) := ⟨_, rfl⟩
          rw [← hf665028] at e665026
          have he665029 : F665025 q664847 = .inl (I .byte, n664851, .inl f665028) := e665026
          have hfr665030 : rFr [q664847] P664845 F664846 F665025 := rFr_put' List.mem_cons_self hfr665020 n665027
          have bf665028 : gF f665028 (-128) 127 := gF_upd hf665028 bf665018 gB_byte
          refine G_goto 22 dr_cJ6_getChars_ba4f3_69 (by decide +kernel) ?_
          refine G_lv (L' := [(0, .int z665008), (6, .int 0), (5, .int z665021), (1, .int p664849), (2, .ref q664847)]) [1, 4, 0, 5, 6] rfl ?_
          exact ih22_664975 F665025 z665008 z665021 f665028 (gB_w bz665008 (by decide) (by decide)) (gB_w bz665021 (by decide) (by decide)) bf665028 hfr665030 he665029 (by have qa0 : Int32.toInt 0 = 0 := (by decide); omega) (by have q10 : Int32.toInt 10 = 10 := (by decide); have q11 : Int32.toInt 11 = 11 := (by decide); first | exact dgB_up (dgS_ip x664853 (by omega) (by omega)) (by omega) (by omega) | exact dgB_up (dgS_in x664853 (by omega)) (by omega) (by omega) | exact dgB_up x664974 (by omega) (by omega) | exact dgB_up (dgB_st x664974 (by omega) (by omega) (by omega)) (by omega) (by omega)) (by have qa0 : Int32.toInt 0 = 0 := (by decide); omega) (fun k e1 e2 e3 ht => kt22_664975 k e1 e2 e3 (fun R c1 c2 => c2 g664967 g664968 f664969 z665008 z665009 z665010 z665011 z665014 f665018 z665021 z665024 f665028 k e1 e2 e3 bg664967 bg664968 r665006 ez665008 ez665009 ez665010 ez665011 hz665014 hf665018 ez665021 hz665024 hf665028 (ht R c1 c2))) (by have qa0 : Int32.toInt 0 = 0 := (by decide); omega)
    exact hlp22_664975 ((-z664858.toInt).toNat + 1) F664846 z664858 p664849 f664850 bz664858 bp664849 bf664850 (rFr_v (rFr_rf (W := []) (P := P664845) (F := F664846)) (fun b hn => nm_n)) heq664847 (by have qa0 : Int32.toInt 0 = 0 := (by decide); omega) (by have q10 : Int32.toInt 10 = 10 := (by decide); have q11 : Int32.toInt 11 = 11 := (by decide); first | exact dgB_up (dgS_ip x664853 (by omega) (by omega)) (by omega) (by omega) | exact dgB_up (dgS_in x664853 (by omega)) (by omega) (by omega)) (by have qa0 : Int32.toInt 0 = 0 := (by decide); omega) (fun k e1 e2 e3 ht => ht) (Nat.lt_succ_self _)
  · have r665031 : p664848.toInt < 0 := gj_nleL hc664856 (show Int32.toInt 0 = 0 by decide)
    have bp664848' : gB p664848 (-2147483648) (-1) := ⟨by omega, by omega⟩
    refine G_iconst 1 dr_cJ6_getChars_ba4f3_7 (by decide +kernel) ?_
    refine G_goto 12 dr_cJ6_getChars_ba4f3_8 (by decide +kernel) ?_
    refine G_istore (L' := [(6, .int 1), (5, .int p664849), (0, .int p664848), (1, .int p664849), (2, .ref q664847)]) dr_cJ6_getChars_ba4f3_12 (Nat.le_of_ble_eq_true rfl) rfl ?_
    refine G_iload 0 dr_cJ6_getChars_ba4f3_14 rfl ?_
    refine G_if_ne 22 dr_cJ6_getChars_ba4f3_16 (by decide +kernel) (fun _ => ?_) (fun hc => absurd hc (by decide))
    have hlp22_665176 : ∀ (n22_665176 : Nat) (F665171 : Nat → va_E) (g665168 : Int32) (g665169 : Int32) (f665170 : Nat → Int32), gB g665168 0 16777216 → gB g665169 (-2147483648) (-1) → gF f665170 (-128) 127 → rFr [q664847] P664845 F664846 F665171 → F665171 q664847 = .inl (I .byte, n664851, .inl f665170) → g665169.toInt ≤ 0 → dgB g665169.toInt (g665168.toInt - 1) → g665168.toInt ≤ p664849.toInt → (∀ (k : Nat) (e1 : Int32) (e2 : Int32) (e3 : Nat → Int32), tl_RInteger_getChars_22_2 g665168 g665169 f665170 k e1 e2 e3 → tl_RInteger_getChars_22_2 p664849 p664848 f664850 k e1 e2 e3) → (-g665169.toInt).toNat < n22_665176 → G (gV D I) l (gRm 0 0 0 0) (gMA (gV D I) (pp_664855_Integer_getChars D I P664845 F664846 q664847 p664848 p664849 f664850 n664851) gNA 0 0) ky_664855_Integer_getChars 22 [(6, .int 1), (5, .int g665168), (0, .int g665169), (1, .int p664849), (2, .ref q664847)] [] (va_pl P664845 F665171) 0 0 := by
      intro n22_665176
      induction n22_665176 with
      | zero => intro F665171 g665168 g665169 f665170 bg665168 bg665169 bf665170 hfr665173 he665172 x665174 x665175 x665176 kt22_665176 hm22_665176; exact absurd hm22_665176 (Nat.not_lt_zero _)
      | succ n22_665176 ih22_665176 =>
        intro F665171 g665168 g665169 f665170 bg665168 bg665169 bf665170 hfr665173 he665172 x665174 x665175 x665176 kt22_665176 hm22_665176
        refine G_iload_n 2 dr_cJ6_getChars_ba4f3_22 rfl ?_
        refine G_bipush (-100) dr_cJ6_getChars_ba4f3_23 (by decide +kernel) ?_
        refine G_icmp_gt 72 dr_cJ6_getChars_ba4f3_25 (by decide +kernel) (fun hc665177 => ?_) (fun hc665177 => ?_)
        · have r665178 : (-100) < g665169.toInt := gj_ltL hc665177 (show Int32.toInt (-100) = (-100) by decide)
          have bg665169' : gB g665169 (-99) (-1) := ⟨by omega, by omega⟩
          have hx665179 : tl_RInteger_getChars_22_2 p664849 p664848 f664850 72 g665168 g665169 f665170 := kt22_665176 72 g665168 g665169 f665170 (fun R c1 c2 => c1 g665168 g665169 f665170 bg665168 bg665169 r665178)
          have x665180 : (1 : Int) ≤ (g665168.toInt - 1) := dgB_1 x665175
          refine G_aload_n 4 dr_cJ6_getChars_ba4f3_72 rfl ?_
          have bg665168' : gB g665168 1 16777216 := ⟨by omega, by omega⟩
          obtain ⟨z665181, hz665181⟩ : ∃ z : Int32, z = g665168 + Int32.ofInt (-1) := ⟨_, rfl⟩
          have ez665181 : z665181.toInt = g665168.toInt + (-1) := gI_inc hz665181 (by decide) bg665168' (by decide) (by decide)
          have bz665181 : gB z665181 0 16777215 := ⟨by omega, by omega⟩
          refine G_iinc (L' := [(5, .int z665181), (6, .int 1), (0, .int g665169), (1, .int p664849), (2, .ref q664847)]) z665181 1 dr_cJ6_getChars_ba4f3_73 rfl hz665181.symm (Nat.le_of_ble_eq_true rfl) rfl ?_
          refine G_iload 0 dr_cJ6_getChars_ba4f3_76 rfl ?_
          refine G_gets dr_cJ6_getChars_ba4f3_78 wr_8_118 gr_on (fun x665183 hx665182 => ?_)
          subst hx665182
          refine G_iload_n 2 dr_cJ6_getChars_ba4f3_81 rfl ?_
          refine G_ineg dr_cJ6_getChars_ba4f3_82 (G_nam fun z665184 hz665184 => ?_)
          have ez665184 : z665184.toInt = -g665169.toInt := gI_neg hz665184 bg665169' (by decide)
          have bz665184 : gB z665184 1 99 := ⟨by omega, by omega⟩
          refine G_kbald (f := dg_O) dr_cJ6_getChars_ba4f3_83 gr_ont (gB_inr (by omega) (by omega)) (G_nam fun z665185 hz665185 => ?_)
          have bz665185 : gB z665185 (-2147483648) 2147483647 := gB_any z665185
          refine Gp_bast 1 hmq664847 he665172 dr_cJ6_getChars_ba4f3_84 rfl (gB_inr (by omega) (by omega)) (fun F665186 e665187 n665188 => ?_)
          obtain ⟨f665189, hf665189⟩ : ∃ z, z = upd f665170 z665181.toNatClampNeg (vp_nar .byte z665185) := ⟨_, rfl⟩
          rw [← hf665189] at e665187
          have he665190 : F665186 q664847 = .inl (I .byte, n664851, .inl f665189) := e665187
          have hfr665191 : rFr [q664847] P664845 F664846 F665186 := rFr_put' List.mem_cons_self hfr665173 n665188
          have bf665189 : gF f665189 (-128) 127 := gF_upd hf665189 bf665170 gB_byte
          refine G_iload_n 2 dr_cJ6_getChars_ba4f3_85 rfl ?_
          refine G_bipush (-9) dr_cJ6_getChars_ba4f3_86 (by decide +kernel) ?_
          refine G_icmp_ge 104 dr_cJ6_getChars_ba4f3_88 (by decide +kernel) (fun hc665192 => ?_) (fun hc665192 => ?_)
          · have r665193 : (-9) ≤ g665169.toInt := gj_leL hc665192 (show Int32.toInt (-9) = (-9) by decide)
            have bg665169'' : gB g665169 (-9) (-1) := ⟨by omega, by omega⟩
            refine G_iload 1 dr_cJ6_getChars_ba4f3_104 rfl ?_
            refine G_if_eq 118 dr_cJ6_getChars_ba4f3_106 (by decide +kernel) (fun hc => absurd hc (by decide)) (fun _ => ?_)
            refine G_aload_n 4 dr_cJ6_getChars_ba4f3_109 rfl ?_
            have bz665181' : gB z665181 1 16777215 := ⟨by omega, by omega⟩
            obtain ⟨z665194, hz665194⟩ : ∃ z : Int32, z = z665181 + Int32.ofInt (-1) := ⟨_, rfl⟩
            have ez665194 : z665194.toInt = z665181.toInt + (-1) := gI_inc hz665194 (by decide) bz665181' (by decide) (by decide)
            have bz665194 : gB z665194 0 16777214 := ⟨by omega, by omega⟩
            refine G_iinc (L' := [(5, .int z665194), (6, .int 1), (0, .int g665169), (1, .int p664849), (2, .ref q664847)]) z665194 0 dr_cJ6_getChars_ba4f3_110 rfl hz665194.symm (Nat.le_of_ble_eq_true rfl) rfl ?_
            refine G_iload 0 dr_cJ6_getChars_ba4f3_113 rfl ?_
            refine G_bipush 45 dr_cJ6_getChars_ba4f3_115 (by decide +kernel) ?_
            refine Gp_bast 1 hmq664847 he665190 dr_cJ6_getChars_ba4f3_117 rfl (gB_inr (by omega) (by omega)) (fun F665195 e665196 n665197 => ?_)
            obtain ⟨f665198, hf665198⟩ : ∃ z, z = upd f665189 z665194.toNatClampNeg (vp_nar .byte 45) := ⟨_, rfl⟩
            rw [← hf665198] at e665196
            have he665199 : F665195 q664847 = .inl (I .byte, n664851, .inl f665198) := e665196
            have hfr665200 : rFr [q664847] P664845 F664846 F665195 := rFr_put' List.mem_cons_self hfr665191 n665197
            have bf665198 : gF f665198 (-128) 127 := gF_upd hf665198 bf665189 gB_byte
            refine G_iload 0 dr_cJ6_getChars_ba4f3_118 rfl ?_
            exact G_iretA dr_cJ6_getChars_ba4f3_120 rfl (Nat.le_of_ble_eq_true rfl) (Nat.le_of_ble_eq_true rfl) ⟨F665195, z665194, f665198, rfl, rfl, hfr665200, he665199, (Nat.le_of_ble_eq_true rfl), (Nat.le_of_ble_eq_true rfl), (gB_w bz665194 (by decide) (by decide)), bf665198, (fun R c1 c2 c3 c4 => c3 g665168 g665169 f665170 z665181 z665184 z665185 f665189 z665194 f665198 r665031 hx665179 ez665181 hz665184 hz665185 hf665189 r665193 ez665194 hf665198)⟩
          · have r665201 : g665169.toInt < (-9) := gj_nleL hc665192 (show Int32.toInt (-9) = (-9) by decide)
            have bg665169'' : gB g665169 (-99) (-10) := ⟨by omega, by omega⟩
            have x665202 : (2 : Int) ≤ (g665168.toInt - 1) := dgB_2 x665175 (by omega)
            refine G_aload_n 4 dr_cJ6_getChars_ba4f3_91 rfl ?_
            have bz665181' : gB z665181 1 16777215 := ⟨by omega, by omega⟩
            obtain ⟨z665203, hz665203⟩ : ∃ z : Int32, z = z665181 + Int32.ofInt (-1) := ⟨_, rfl⟩
            have ez665203 : z665203.toInt = z665181.toInt + (-1) := gI_inc hz665203 (by decide) bz665181' (by decide) (by decide)
            have bz665203 : gB z665203 0 16777214 := ⟨by omega, by omega⟩
            refine G_iinc (L' := [(5, .int z665203), (6, .int 1), (0, .int g665169), (1, .int p664849), (2, .ref q664847)]) z665203 0 dr_cJ6_getChars_ba4f3_92 rfl hz665203.symm (Nat.le_of_ble_eq_true rfl) rfl ?_
            refine G_iload 0 dr_cJ6_getChars_ba4f3_95 rfl ?_
            refine G_gets dr_cJ6_getChars_ba4f3_97 wr_8_120 gr_te (fun x665205 hx665204 => ?_)
            subst hx665204
            refine G_iload_n 2 dr_cJ6_getChars_ba4f3_100 rfl ?_
            refine G_ineg dr_cJ6_getChars_ba4f3_101 (G_nam fun z665206 hz665206 => ?_)
            have ez665206 : z665206.toInt = -g665169.toInt := gI_neg hz665206 bg665169'' (by decide)
            have bz665206 : gB z665206 10 99 := ⟨by omega, by omega⟩
            refine G_kbald (f := dg_T) dr_cJ6_getChars_ba4f3_102 gr_tet (gB_inr (by omega) (by omega)) (G_nam fun z665207 hz665207 => ?_)
            have bz665207 : gB z665207 (-2147483648) 2147483647 := gB_any z665207
            refine Gp_bast 1 hmq664847 he665190 dr_cJ6_getChars_ba4f3_103 rfl (gB_inr (by omega) (by omega)) (fun F665208 e665209 n665210 => ?_)
            obtain ⟨f665211, hf665211⟩ : ∃ z, z = upd f665189 z665203.toNatClampNeg (vp_nar .byte z665207) := ⟨_, rfl⟩
            rw [← hf665211] at e665209
            have he665212 : F665208 q664847 = .inl (I .byte, n664851, .inl f665211) := e665209
            have hfr665213 : rFr [q664847] P664845 F664846 F665208 := rFr_put' List.mem_cons_self hfr665191 n665210
            have bf665211 : gF f665211 (-128) 127 := gF_upd hf665211 bf665189 gB_byte
            refine G_iload 1 dr_cJ6_getChars_ba4f3_104 rfl ?_
            refine G_if_eq 118 dr_cJ6_getChars_ba4f3_106 (by decide +kernel) (fun hc => absurd hc (by decide)) (fun _ => ?_)
            refine G_aload_n 4 dr_cJ6_getChars_ba4f3_109 rfl ?_
            have bz665203' : gB z665203 1 16777214 := ⟨by omega, by omega⟩
            obtain ⟨z665214, hz665214⟩ : ∃ z : Int32, z = z665203 + Int32.ofInt (-1) := ⟨_, rfl⟩
            have ez665214 : z665214.toInt = z665203.toInt + (-1) := gI_inc hz665214 (by decide) bz665203' (by decide) (by decide)
            have bz665214 : gB z665214 0 16777213 := ⟨by omega, by omega⟩
            refine G_iinc (L' := [(5, .int z665214), (6, .int 1), (0, .int g665169), (1, .int p664849), (2, .ref q664847)]) z665214 0 dr_cJ6_getChars_ba4f3_110 rfl hz665214.symm (Nat.le_of_ble_eq_true rfl) rfl ?_
            refine G_iload 0 dr_cJ6_getChars_ba4f3_113 rfl ?_
            refine G_bipush 45 dr_cJ6_getChars_ba4f3_115 (by decide +kernel) ?_
            refine Gp_bast 1 hmq664847 he665212 dr_cJ6_getChars_ba4f3_117 rfl (gB_inr (by omega) (by omega)) (fun F665215 e665216 n665217 => ?_)
            obtain ⟨f665218, hf665218⟩ : ∃ z, z = upd f665211 z665214.toNatClampNeg (vp_nar .byte 45) := ⟨_, rfl⟩
            rw [← hf665218] at e665216
            have he665219 : F665215 q664847 = .inl (I .byte, n664851, .inl f665218) := e665216
            have hfr665220 : rFr [q664847] P664845 F664846 F665215 := rFr_put' List.mem_cons_self hfr665213 n665217
            have bf665218 : gF f665218 (-128) 127 := gF_upd hf665218 bf665211 gB_byte
            refine G_iload 0 dr_cJ6_getChars_ba4f3_118 rfl ?_
            exact G_iretA dr_cJ6_getChars_ba4f3_120 rfl (Nat.le_of_ble_eq_true rfl) (Nat.le_of_ble_eq_true rfl) ⟨F665215, z665214, f665218, rfl, rfl, hfr665220, he665219, (Nat.le_of_ble_eq_true rfl), (Nat.le_of_ble_eq_true rfl), (gB_w bz665214 (by decide) (by decide)), bf665218, (fun R c1 c2 c3 c4 => c4 g665168 g665169 f665170 z665181 z665184 z665185 f665189 z665203 z665206 z665207 f665211 z665214 f665218 r665031 hx665179 ez665181 hz665184 hz665185 hf665189 r665201 ez665203 hz665206 hz665207 hf665211 ez665214 hf665218)⟩
        · have r665221 : g665169.toInt ≤ (-100) := gj_nltL hc665177 (show Int32.toInt (-100) = (-100) by decide)
          have bg665169' : gB g665169 (-2147483648) (-100) := ⟨by omega, by omega⟩
          have x665222 : (3 : Int) ≤ (g665168.toInt - 1) := dgB_3 x665175 (by omega)
          refine G_iload_n 2 dr_cJ6_getChars_ba4f3_28 rfl ?_
          refine G_bipush 100 dr_cJ6_getChars_ba4f3_29 (by decide +kernel) ?_
          refine G_idiv dr_cJ6_getChars_ba4f3_31 (by decide) (G_nam fun z665223 hz665223 => ?_)
          have ez665223 : z665223.toInt = -((-g665169.toInt) / 100) := gI_divn hz665223 bg665169' (by decide) (by decide) (by decide)
          have bz665223 : gB z665223 (-21474836) (-1) := ⟨by omega, by omega⟩
          refine G_istore_n (L' := [(3, .int z665223), (6, .int 1), (5, .int g665168), (0, .int g665169), (1, .int p664849), (2, .ref q664847)]) dr_cJ6_getChars_ba4f3_32 (Nat.le_of_ble_eq_true rfl) rfl ?_
          refine G_iload_n 0 dr_cJ6_getChars_ba4f3_33 rfl ?_
          refine G_bipush 100 dr_cJ6_getChars_ba4f3_34 (by decide +kernel) ?_
          refine G_imul dr_cJ6_getChars_ba4f3_36 (G_nam fun z665224 hz665224 => ?_)
          have ez665224 : z665224.toInt = z665223.toInt * 100 := gI_mulK hz665224 (by decide) (by omega) (by omega)
          have bz665224 : gB z665224 (-2147483600) (-100) := ⟨by omega, by omega⟩
          refine G_iload_n 3 dr_cJ6_getChars_ba4f3_37 rfl ?_
          refine G_isub dr_cJ6_getChars_ba4f3_38 (G_nam fun z665225 hz665225 => ?_)
          have ez665225 : z665225.toInt = z665224.toInt - g665169.toInt := by rw [gI_sub hz665225 bz665224 bg665169' (by decide) (by decide)]
          have bz665225 : gB z665225 (-2147483500) 2147483548 := gB_sub (gI_sub hz665225 bz665224 bg665169' (by decide) (by decide)) bz665224 bg665169' (by decide) (by decide)
          refine G_istore (L' := [(4, .int z665225), (3, .int z665223), (6, .int 1), (5, .int g665168), (0, .int g665169), (1, .int p664849), (2, .ref q664847)]) dr_cJ6_getChars_ba4f3_39 (Nat.le_of_ble_eq_true rfl) rfl ?_
          refine G_iload_n 1 dr_cJ6_getChars_ba4f3_41 rfl ?_
          refine G_istore_n (L' := [(0, .int z665223), (4, .int z665225), (3, .int z665223), (6, .int 1), (5, .int g665168), (1, .int p664849), (2, .ref q664847)]) dr_cJ6_getChars_ba4f3_42 (Nat.le_of_ble_eq_true rfl) rfl ?_
          refine G_aload_n 6 dr_cJ6_getChars_ba4f3_43 rfl ?_
          have bg665168' : gB g665168 2 16777216 := ⟨by omega, by omega⟩
          obtain ⟨z665226, hz665226⟩ : ∃ z : Int32, z = g665168 + Int32.ofInt (-1) := ⟨_, rfl⟩
          have ez665226 : z665226.toInt = g665168.toInt + (-1) := gI_inc hz665226 (by decide) bg665168' (by decide) (by decide)
          have bz665226 : gB z665226 1 16777215 := ⟨by omega, by omega⟩
          refine G_iinc (L' := [(5, .int z665226), (0, .int z665223), (4, .int z665225), (3, .int z665223), (6, .int 1), (1, .int p664849), (2, .ref q664847)]) z665226 4 dr_cJ6_getChars_ba4f3_44 rfl hz665226.symm (Nat.le_of_ble_eq_true rfl) rfl ?_
          refine G_iload 0 dr_cJ6_getChars_ba4f3_47 rfl ?_
          refine G_gets dr_cJ6_getChars_ba4f3_49 wr_8_118 gr_on (fun x665228 hx665227 => ?_)
          subst hx665227
          refine G_iload 2 dr_cJ6_getChars_ba4f3_52 rfl ?_
          refine G_kbald (f := dg_O) dr_cJ6_getChars_ba4f3_54 gr_ont (gB_inr (by omega) (by omega)) (G_nam fun z665229 hz665229 => ?_)
          have bz665229 : gB z665229 (-2147483648) 2147483647 := gB_any z665229
          refine Gp_bast 1 hmq664847 he665172 dr_cJ6_getChars_ba4f3_55 rfl (gB_inr (by omega) (by omega)) (fun F665230 e665231 n665232 => ?_)
          obtain ⟨f665233, hf665233⟩ : ∃ z, z = upd f665170 z665226.toNatClampNeg (vp_nar .byte z665229) := ⟨_, rfl⟩
          rw [← hf665233] at e665231
          have he665234 : F665230 q664847 = .inl (I .byte, n664851, .inl f665233) := e665231
          have hfr665235 : rFr [q664847] P664845 F664846 F665230 := rFr_put' List.mem_cons_self hfr665173 n665232
          have bf665233 : gF f665233 (-128) 127 := gF_upd hf665233 bf665170 gB_byte
          refine G_aload_n 6 dr_cJ6_getChars_ba4f3_56 rfl ?_
          obtain ⟨z665236, hz665236⟩ : ∃ z : Int32, z = z665226 + Int32.ofInt (-1) := ⟨_, rfl⟩
          have ez665236 : z665236.toInt = z665226.toInt + (-1) := gI_inc hz665236 (by decide) bz665226 (by decide) (by decide)
          have bz665236 : gB z665236 0 16777214 := ⟨by omega, by omega⟩
          refine G_iinc (L' := [(5, .int z665236), (0, .int z665223), (4, .int z665225), (3, .int z665223), (6, .int 1), (1, .int p664849), (2, .ref q664847)]) z665236 0 dr_cJ6_getChars_ba4f3_57 rfl hz665236.symm (Nat.le_of_ble_eq_true rfl) rfl ?_
          refine G_iload 0 dr_cJ6_getChars_ba4f3_60 rfl ?_
          refine G_gets dr_cJ6_getChars_ba4f3_62 wr_8_120 gr_te (fun x665238 hx665237 => ?_)
          subst hx665237
          refine G_iload 2 dr_cJ6_getChars_ba4f3_65 rfl ?_
          refine G_kbald (f := dg_T) dr_cJ6_getChars_ba4f3_67 gr_tet (gB_inr (by omega) (by omega)) (G_nam fun z665239 hz665239 => ?_)
          have bz665239 : gB z665239 (-2147483648) 2147483647 := gB_any z665239
          refine Gp_bast 1 hmq664847 he665234 dr_cJ6_getChars_ba4f3_68 rfl (gB_inr (by omega) (by omega)) (fun F665240 e665241 n665242 => ?_)
          obtain ⟨f665243, hf665243⟩ : ∃ z, z = upd f665233 z665236.toNatClampNeg (vp_nar .byte z665239) := ⟨_, rfl⟩
          rw [← hf665243] at e665241
          have he665244 : F665240 q664847 = .inl (I .byte, n664851, .inl f665243) := e665241
          have hfr665245 : rFr [q664847] P664845 F664846 F665240 := rFr_put' List.mem_cons_self hfr665235 n665242
          have bf665243 : gF f665243 (-128) 127 := gF_upd hf665243 bf665233 gB_byte
          refine G_goto 22 dr_cJ6_getChars_ba4f3_69 (by decide +kernel) ?_
          refine G_lv (L' := [(6, .int 1), (5, .int z665236), (0, .int z665223), (1, .int p664849), (2, .ref q664847)]) [4, 0, 1, 5, 6] rfl ?_
          exact ih22_665176 F665240 z665236 z665223 f665243 (gB_w bz665236 (by decide) (by decide)) (gB_w bz665223 (by decide) (by decide)) bf665243 hfr665245 he665244 (by have qa0 : Int32.toInt 1 = 1 := (by decide); omega) (by have q10 : Int32.toInt 10 = 10 := (by decide); have q11 : Int32.toInt 11 = 11 := (by decide); first | exact dgB_up (dgS_ip x664853 (by omega) (by omega)) (by omega) (by omega) | exact dgB_up (dgS_in x664853 (by omega)) (by omega) (by omega) | exact dgB_up x665175 (by omega) (by omega) | exact dgB_up (dgB_st x665175 (by omega) (by omega) (by omega)) (by omega) (by omega)) (by have qa0 : Int32.toInt 1 = 1 := (by decide); omega) (fun k e1 e2 e3 ht => kt22_665176 k e1 e2 e3 (fun R c1 c2 => c2 g665168 g665169 f665170 z665223 z665224 z665225 z665226 z665229 f665233 z665236 z665239 f665243 k e1 e2 e3 bg665168 bg665169 r665221 ez665223 ez665224 ez665225 ez665226 hz665229 hf665233 ez665236 hz665239 hf665243 (ht R c1 c2))) (by have qa0 : Int32.toInt 1 = 1 := (by decide); omega)
    exact hlp22_665176 ((-p664848.toInt).toNat + 1) F664846 p664849 p664848 f664850 bp664849 bp664848' bf664850 (rFr_v (rFr_rf (W := []) (P := P664845) (F := F664846)) (fun b hn => nm_n)) heq664847 (by have qa0 : Int32.toInt 1 = 1 := (by decide); omega) (by have q10 : Int32.toInt 10 = 10 := (by decide); have q11 : Int32.toInt 11 = 11 := (by decide); first | exact dgB_up (dgS_ip x664853 (by omega) (by omega)) (by omega) (by omega) | exact dgB_up (dgS_in x664853 (by omega)) (by omega) (by omega)) (by have qa0 : Int32.toInt 1 = 1 := (by decide); omega) (fun k e1 e2 e3 ht => ht) (Nat.lt_succ_self _)
/- tr_RAbstractStringBuilder_append7: a.0...count, a.0.value.#, a.0.value.[] -/
def tr_RAbstractStringBuilder_append7 (a1 : Int32) (a0_count : Int32) (a0_value_v : Nat → Int32) (a0_value_n : Nat) (o1 : Int32) (o2 : Nat) (o3 : Nat → Int32) : Prop := ∀ R : (Int32) → (Nat) → (Nat → Int32) → Prop,
  (∀ (x1 : Int32) (x2 : Int32) (x3 : Nat) (x4 : Nat → Int32) (x5 : Int32) (x6 : Nat → Int32), gB x1 1 11 → tr_RInteger_stringSize a1 x1 → x2.toInt = a0_count.toInt + x1.toInt → tr_RAbstractStringBuilder_ensureCapacityInternal2 x2 a0_value_v a0_value_n x3 x4 → gB x5 0 16777215 → tr_RInteger_getChars a1 x2 x4 x5 x6 → R x2 x3 x6) →
  R o1 o2 o3
abbrev ky_664668_AbstractStringBuilder_append : gKey := (cJ5_append_c97b9, 4, "java/lang/AbstractStringBuilder", (some (FieldType.object "java/lang/AbstractStringBuilder")), [], "append", fun _ _ => True)
def pp_664668_AbstractStringBuilder_append (D : va_G) (I : FieldType → ClassId) (P664656 : List Nat) (F664657 : Nat → va_E) (q664658 : Nat) (q664659 : Nat) (p664660 : Int32) (p664661 : Int32) (p664662 : Int32) (f664663 : Nat → Int32) (n664664 : Nat) : Option Value → va_W → Nat → Nat → Prop := fun r w dc ds => ∃ (P665274 : List Nat) (F665275 : Nat → va_E) (o665270 : Int32) (q665271 : Nat) (n665272 : Nat) (f665273 : Nat → Int32), r = some (.ref q664658) ∧ w = va_pl P665274 F665275 ∧ rSub P664656 P665274 ∧ rFr [q664658, q664659] P664656 F664657 F665275 ∧ F665275 q664658 = .inr (1, [.ref q665271, .int 0, .int p664661, .int o665270]) ∧ F665275 q665271 = .inl (I .byte, n665272, .inl f665273) ∧ q665271 ∈ P665274 ∧ (q665271 = q664659 ∨ q665271 ∉ P664656) ∧ dc ≤ 1 ∧ ds ≤ 2 * (n665272 - n664664) ∧ gB o665270 1 16777216 ∧ gF f665273 (-128) 127 ∧ p664662.toInt ≤ o665270.toInt ∧ o665270.toInt ≤ p664662.toInt + 11 ∧ o665270.toInt ≤ (n665272 : Int) ∧ (n664664 : Int) ≤ (n665272 : Int) ∧ ((n665272 : Int) ≤ 2 * (n664664 : Int) + 2 ∨ (n665272 : Int) ≤ p664662.toInt + 11) ∧ tr_RAbstractStringBuilder_append7 p664660 p664662 f664663 n664664 o665270 n665272 f665273
set_option maxRecDepth 100000 in
set_option maxHeartbeats 4000000 in
theorem cp_664668_AbstractStringBuilder_append (l : Launch) (hl0 : l.stackTraces = false) (D : va_G) (I : FieldType → ClassId) (P664656 : List Nat) (F664657 : Nat → va_E) (q664658 : Nat) (q664659 : Nat) (p664660 : Int32) (p664661 : Int32) (p664662 : Int32) (f664663 : Nat → Int32) (n664664 : Nat) (hmq664658 : q664658 ∈ P664656) (hmq664659 : q664659 ∈ P664656) (heq664658 : F664657 q664658 = .inr (1, [.ref q664659, .int 0, .int p664661, .int p664662])) (heq664659 : F664657 q664659 = .inl (I .byte, n664664, .inl f664663)) (bp664661 : gB p664661 0 1) (bp664662 : gB p664662 0 16777216) (bf664663 : gF f664663 (-128) 127) (x664665 : (n664664 : Int) ≤ 8388608 - 100000) (x664666 : p664662.toInt ≤ (n664664 : Int)) (x664667 : ((n664664 : Int) ≤ 16777216)) : CtA (gV D I) l yJ5_append_c97b9 cJ5_append_c97b9 4 (some (FieldType.object "java/lang/AbstractStringBuilder")) 4 84 1 (4 * n664664 + 64) [.ref q664658, .int p664660] (va_pl P664656 F664657) (pp_664668_AbstractStringBuilder_append D I P664656 F664657 q664658 q664659 p664660 p664661 p664662 f664663 n664664) gNA := by
  refine CtA_ofF hl0 (by decide +kernel) (Nat.le_of_ble_eq_true rfl) ?_
  have bp664660 := gB_any p664660
  refine G_aload_n 0 dr_cJ5_append_c97b9_0 rfl ?_
  refine Gp_get 3 hmq664658 heq664658 dr_cJ5_append_c97b9_1 (gk_J4 D I) (Nat.le_of_ble_eq_true rfl) wr_7_64 rfl ?_
  refine G_istore_n (L' := [(2, .int p664662), (0, .ref q664658), (1, .int p664660)]) dr_cJ5_append_c97b9_4 (Nat.le_of_ble_eq_true rfl) rfl ?_
  refine G_iload_n 0 dr_cJ5_append_c97b9_5 rfl ?_
  refine G_iload_n 2 dr_cJ5_append_c97b9_6 rfl ?_
  refine Gw_callS (As := [.int p664660]) (gV_ok D I) (cp_664672_Integer_stringSize l hl0 D I P664656 F664657 p664660 ) dr_cJ5_append_c97b9_7 ⟨wr_8_112, wr_1_35, wr_8_114, by decide, rfl, (Nat.le_of_ble_eq_true rfl), (Nat.le_of_ble_eq_true rfl)⟩ wr_8_113 (show 0 + 0 ≤ 1 by first | omega | decide) (show 0 + 0 ≤ (4 * n664664 + 64) by first | omega | decide) (Nat.le_of_ble_eq_true rfl) (fun r664807 w664808 dc664804 ds664805 hp664806 => ?_) (fun _ _ _ _ _ z => z.elim)
  obtain ⟨o664809, rfl, rfl, hdc, hds, bo664809, x664810, ht664811⟩ := hp664806
  change G _ _ _ _ _ _ _ (.int o664809 :: _) _ _ _
  refine G_widen (cs' := 0) (sl' := 0) (by omega) (by omega) ?_
  refine G_iadd dr_cJ5_append_c97b9_10 (G_nam fun z664812 hz664812 => ?_)
  have ez664812 : z664812.toInt = p664662.toInt + o664809.toInt := by rw [gI_add hz664812 bp664662 bo664809 (by decide) (by decide)]
  have bz664812 : gB z664812 1 16777227 := gB_add (gI_add hz664812 bp664662 bo664809 (by decide) (by decide)) bp664662 bo664809 (by decide) (by decide)
  refine G_istore_n (L' := [(3, .int z664812), (2, .int p664662), (0, .ref q664658), (1, .int p664660)]) dr_cJ5_append_c97b9_11 (Nat.le_of_ble_eq_true rfl) rfl ?_
  refine G_aload_n 2 dr_cJ5_append_c97b9_12 rfl ?_
  refine G_iload_n 0 dr_cJ5_append_c97b9_13 rfl ?_
  refine Gw_callVB (As := [.int z664812]) (gV_ok D I) (cp_655917_AbstractStringBuilder_ensureCapacityInternal l hl0 D I P664656 F664657 q664658 q664659 z664812 p664661 p664662 f664663 n664664 hmq664658 hmq664659 heq664658 heq664659 ⟨by omega, by omega⟩ bp664661 bp664662 bf664663 (by have qa0 : Int32.toInt 0 = 0 := (by decide); omega) (by have qa0 : Int32.toInt 0 = 0 := (by decide); omega)) dr_cJ5_append_c97b9_14 ⟨wr_8_4, wr_1_19, wr_8_7, by decide, rfl, (Nat.le_of_ble_eq_true rfl), (Nat.le_of_ble_eq_true rfl)⟩ wr_8_6 wr_s_0 hmq664658 heq664658 rfl (show 0 + 1 ≤ 1 by first | omega | decide) (show 0 + (2 * n664664 + 2 + z664812.toInt.toNat) ≤ (4 * n664664 + 64) by first | omega | decide) (Nat.le_of_ble_eq_true rfl) (fun r664816 w664817 dc664813 ds664814 hp664815 => ?_) (fun _ _ _ _ _ z => z.elim)
  obtain ⟨P664826, F664827, q664818, n664819, f664820, rfl, rfl, hsb664828, hfr664829, he664830, he664831, hm664832, hq664833, hdc, hds, bf664820, x664821, x664822, x664823, x664824, ht664825⟩ := hp664815
  have hm664834 : q664658 ∈ P664826 := hsb664828 q664658 hmq664658
  have hm664835 : q664659 ∈ P664826 := hsb664828 q664659 hmq664659
  have hor664836 : q664818 = q664659 ∨ q664818 ∉ P664656 := hq664833.elim Or.inl (fun n => Or.inr (fun z => n ((rSub_rf (P := P664656)) _ z)))
  have hsb664837 : rSub P664656 P664826 := rSub_tr (rSub_rf (P := P664656)) hsb664828
  have he664838 : F664827 q664659 = .inl (I .byte, n664664, .inl f664663) := (hfr664829 q664659 hmq664659 (nm_c (rn_ao heq664659 heq664658) nm_n)).trans heq664659
  have hfr664839 : rFr [q664658] P664656 F664657 F664827 := rFr_call (rSub_rf (P := P664656)) (rFr_rf (W := []) (P := P664656) (F := F664657)) hfr664829 (fun b hb hn => ⟨nm_n, (nm_c (fun e => hn (e ▸ List.mem_cons_self)) nm_n)⟩)
  change G _ _ _ _ _ _ _ _ _ _ _
  refine G_widen (cs' := 1) (sl' := 2 * (n664819 - n664664)) (by omega) (by omega) ?_
  refine G_aload_n 2 dr_cJ5_append_c97b9_17 rfl ?_
  refine Gw_callVB (As := []) (gV_ok D I) (cp_655818_AbstractStringBuilder_isLatin1 l hl0 D I P664826 F664827 q664658 q664818 p664661 p664662 f664820 n664819 hm664834 hm664832 he664830 he664831 bp664661 bp664662 bf664820 (by have qa0 : Int32.toInt 0 = 0 := (by decide); omega)) dr_cJ5_append_c97b9_18 ⟨wr_8_33, wr_1_19, wr_8_37, by decide, rfl, (Nat.le_of_ble_eq_true rfl), (Nat.le_of_ble_eq_true rfl)⟩ wr_8_34 wr_8_36 hm664834 he664830 rfl (show 1 + 0 ≤ 1 by first | omega | decide) (show 2 * (n664819 - n664664) + 0 ≤ (4 * n664664 + 64) by first | omega | decide) (Nat.le_of_ble_eq_true rfl) (fun r664843 w664844 dc664840 ds664841 hp664842 => ?_) (fun _ _ _ _ _ z => z.elim)
  obtain ⟨rfl, rfl, hdc, hds⟩ := hp664842
  change G _ _ _ _ _ _ _ (.int 1 :: _) _ _ _
  refine G_widen (cs' := 1) (sl' := 2 * (n664819 - n664664) + 0) (by omega) (by omega) ?_
  refine G_if_eq 37 dr_cJ5_append_c97b9_21 (by decide +kernel) (fun hc => absurd hc (by decide)) (fun _ => ?_)
  refine G_iload_n 3 dr_cJ5_append_c97b9_24 rfl ?_
  refine G_iload_n 0 dr_cJ5_append_c97b9_25 rfl ?_
  refine G_aload_n 2 dr_cJ5_append_c97b9_26 rfl ?_
  refine Gp_get 0 hm664834 he664830 dr_cJ5_append_c97b9_27 (gk_J4 D I) (Nat.le_of_ble_eq_true rfl) wr_7_60 rfl ?_
  refine Gw_callS (As := [.int p664660, .int z664812, .ref q664818]) (gV_ok D I) (cp_664855_Integer_getChars l hl0 D I P664826 F664827 q664818 p664660 z664812 f664820 n664819 hm664832 he664831 ⟨by omega, by omega⟩ bf664820 (by have qa0 : Int32.toInt 0 = 0 := (by decide); omega) (by have q10 : Int32.toInt 10 = 10 := (by decide); have q11 : Int32.toInt 11 = 11 := (by decide); first | exact dgS_up (by omega) (by omega) x664810 (by omega)) (by have qa0 : Int32.toInt 0 = 0 := (by decide); omega)) dr_cJ5_append_c97b9_30 ⟨wr_8_115, wr_1_35, wr_8_117, by decide, rfl, (Nat.le_of_ble_eq_true rfl), (Nat.le_of_ble_eq_true rfl)⟩ wr_8_116 (show 1 + 0 ≤ 1 by first | omega | decide) (show 2 * (n664819 - n664664) + 0 + 0 ≤ (4 * n664664 + 64) by first | omega | decide) (Nat.le_of_ble_eq_true rfl) (fun r665253 w665254 dc665250 ds665251 hp665252 => ?_) (fun _ _ _ _ _ z => z.elim)
  obtain ⟨F665258, o665255, f665256, rfl, rfl, hfr665260, he665261, hdc, hds, bo665255, bf665256, ht665257⟩ := hp665252
  have he665262 : F665258 q664658 = .inr (1, [.ref q664818, .int 0, .int p664661, .int p664662]) := (hfr665260 q664658 hm664834 (nm_c (rn_oa he664830 he664831) nm_n)).trans he664830
  have hfr665263 : rFr [q664658, q664659] P664656 F664657 F665258 := rFr_call hsb664837 hfr664839 hfr665260 (fun b hb hn => ⟨(nm_c (fun e => hn (e ▸ List.mem_cons_self)) nm_n), (nm_c (fun e => hor664836.elim (fun e2 => hn ((e.trans e2) ▸ (List.mem_cons_of_mem _ List.mem_cons_self))) (fun n => n (e ▸ hb))) nm_n)⟩)
  change G _ _ _ _ _ _ _ (.int o665255 :: _) _ _ _
  refine G_widen (cs' := 1) (sl' := 2 * (n664819 - n664664) + 0 + 0) (by omega) (by omega) ?_
  refine G_pop dr_cJ5_append_c97b9_33 rfl ?_
  refine G_goto 48 dr_cJ5_append_c97b9_34 (by decide +kernel) ?_
  refine G_aload_n 2 dr_cJ5_append_c97b9_48 rfl ?_
  refine G_iload_n 0 dr_cJ5_append_c97b9_49 rfl ?_
  refine Gp_put 3 hm664834 he665262 dr_cJ5_append_c97b9_50 (gk_J4 D I) (Nat.le_of_ble_eq_true rfl) wr_7_64 rfl rfl rfl (Nat.le_of_ble_eq_true rfl) (fun F665264 e665265 n665266 => ?_)
  have he665267 : F665264 q664818 = .inl (I .byte, n664819, .inl f665256) := (n665266 q664818 (rn_ao he665261 he665262)).trans he665261
  have he665268 : F665264 q664658 = .inr (1, [.ref q664818, .int 0, .int p664661, .int z664812]) := e665265
  have hfr665269 : rFr [q664658, q664659] P664656 F664657 F665264 := rFr_put' List.mem_cons_self hfr665263 n665266
  refine G_aload_n 2 dr_cJ5_append_c97b9_53 rfl ?_
  exact G_aretA (FieldType.object "java/lang/AbstractStringBuilder") dr_cJ5_append_c97b9_54 rfl (by first | exact Or.inl ⟨_, rfl⟩ | exact Or.inr ⟨_, rfl⟩) (Or.inr ⟨_, rfl⟩) (Nat.le_of_ble_eq_true rfl) (show 2 * (n664819 - n664664) + 0 + 0 ≤ (4 * n664664 + 64) by omega) ⟨P664826, F665264, z664812, q664818, n664819, f665256, rfl, rfl, hsb664837, hfr665269, he665268, he665267, hm664832, hor664836, (Nat.le_of_ble_eq_true rfl), (by omega), ⟨by omega, by omega⟩, bf665256, (by have qa0 : Int32.toInt 0 = 0 := (by decide); omega), (by have qa0 : Int32.toInt 0 = 0 := (by decide); omega), (by have qa0 : Int32.toInt 0 = 0 := (by decide); omega), (by have qa0 : Int32.toInt 0 = 0 := (by decide); omega), (by have qa0 : Int32.toInt 0 = 0 := (by decide); omega), (fun R c1 => c1 o664809 z664812 n664819 f664820 o665255 f665256 bo664809 ht664811 ez664812 ht664825 bo665255 ht665257)⟩
/- tr_RStringBuilder_append7: a.0...count, a.0.value.#, a.0.value.[] -/
def tr_RStringBuilder_append7 (a1 : Int32) (a0_count : Int32) (a0_value_v : Nat → Int32) (a0_value_n : Nat) (o1 : Int32) (o2 : Nat) (o3 : Nat → Int32) : Prop := ∀ R : (Int32) → (Nat) → (Nat → Int32) → Prop,
  (∀ (x1 : Int32) (x2 : Nat) (x3 : Nat → Int32), gB x1 1 16777216 → tr_RAbstractStringBuilder_append7 a1 a0_count a0_value_v a0_value_n x1 x2 x3 → R x1 x2 x3) →
  R o1 o2 o3
abbrev ky_664655_StringBuilder_append : gKey := (cJ4_append_bf812, 2, "java/lang/StringBuilder", (some (FieldType.object "java/lang/StringBuilder")), [], "append", fun _ _ => True)
def pp_664655_StringBuilder_append (D : va_G) (I : FieldType → ClassId) (P664643 : List Nat) (F664644 : Nat → va_E) (q664645 : Nat) (q664646 : Nat) (p664647 : Int32) (p664648 : Int32) (p664649 : Int32) (f664650 : Nat → Int32) (n664651 : Nat) : Option Value → va_W → Nat → Nat → Prop := fun r w dc ds => ∃ (P665308 : List Nat) (F665309 : Nat → va_E) (o665304 : Int32) (q665305 : Nat) (n665306 : Nat) (f665307 : Nat → Int32), r = some (.ref q664645) ∧ w = va_pl P665308 F665309 ∧ rSub P664643 P665308 ∧ rFr [q664645, q664646] P664643 F664644 F665309 ∧ F665309 q664645 = .inr (1, [.ref q665305, .int 0, .int p664648, .int o665304]) ∧ F665309 q665305 = .inl (I .byte, n665306, .inl f665307) ∧ q665305 ∈ P665308 ∧ (q665305 = q664646 ∨ q665305 ∉ P664643) ∧ dc ≤ 1 ∧ ds ≤ 2 * (n665306 - n664651) ∧ gB o665304 1 16777216 ∧ gF f665307 (-128) 127 ∧ p664649.toInt ≤ o665304.toInt ∧ o665304.toInt ≤ p664649.toInt + 11 ∧ o665304.toInt ≤ (n665306 : Int) ∧ (n664651 : Int) ≤ (n665306 : Int) ∧ ((n665306 : Int) ≤ 2 * (n664651 : Int) + 2 ∨ (n665306 : Int) ≤ p664649.toInt + 11) ∧ tr_RStringBuilder_append7 p664647 p664649 f664650 n664651 o665304 n665306 f665307
set_option maxRecDepth 100000 in
set_option maxHeartbeats 4000000 in
theorem cp_664655_StringBuilder_append (l : Launch) (hl0 : l.stackTraces = false) (D : va_G) (I : FieldType → ClassId) (P664643 : List Nat) (F664644 : Nat → va_E) (q664645 : Nat) (q664646 : Nat) (p664647 : Int32) (p664648 : Int32) (p664649 : Int32) (f664650 : Nat → Int32) (n664651 : Nat) (hmq664645 : q664645 ∈ P664643) (hmq664646 : q664646 ∈ P664643) (heq664645 : F664644 q664645 = .inr (1, [.ref q664646, .int 0, .int p664648, .int p664649])) (heq664646 : F664644 q664646 = .inl (I .byte, n664651, .inl f664650)) (bp664648 : gB p664648 0 1) (bp664649 : gB p664649 0 16777216) (bf664650 : gF f664650 (-128) 127) (x664652 : (n664651 : Int) ≤ 8388608 - 100000) (x664653 : p664649.toInt ≤ (n664651 : Int)) (x664654 : ((n664651 : Int) ≤ 16777216)) : CtA (gV D I) l yJ4_append_bf812 cJ4_append_bf812 2 (some (FieldType.object "java/lang/StringBuilder")) 5 107 1 (4 * n664651 + 64) [.ref q664645, .int p664647] (va_pl P664643 F664644) (pp_664655_StringBuilder_append D I P664643 F664644 q664645 q664646 p664647 p664648 p664649 f664650 n664651) gNA := by
  refine CtA_ofF hl0 (by decide +kernel) (Nat.le_of_ble_eq_true rfl) ?_
  have bp664647 := gB_any p664647
  refine G_aload_n 0 dr_cJ4_append_bf812_0 rfl ?_
  refine G_iload_n 1 dr_cJ4_append_bf812_1 rfl ?_
  refine Gw_callSU (As := [.int p664647]) (gV_ok D I) (cp_664668_AbstractStringBuilder_append l hl0 D I P664643 F664644 q664645 q664646 p664647 p664648 p664649 f664650 n664651 hmq664645 hmq664646 heq664645 heq664646 bp664648 bp664649 bf664650 (by have qa0 : Int32.toInt 0 = 0 := (by decide); omega) (by have qa0 : Int32.toInt 0 = 0 := (by decide); omega) (by have qa0 : Int32.toInt 0 = 0 := (by decide); omega)) dr_cJ4_append_bf812_2 ⟨wr_8_109, wr_1_19, wr_8_111, by decide, rfl, (Nat.le_of_ble_eq_true rfl), (Nat.le_of_ble_eq_true rfl)⟩ wr_8_110 wr_11_228 wr_7_73 wr_7_44 (by decide) hmq664645 heq664645 rfl (show 0 + 1 ≤ 1 by first | omega | decide) (show 0 + (4 * n664651 + 64) ≤ (4 * n664651 + 64) by first | omega | decide) (Nat.le_of_ble_eq_true rfl) (fun r665279 w665280 dc665276 ds665277 hp665278 => ?_)
  obtain ⟨P665291, F665292, o665281, q665282, n665283, f665284, rfl, rfl, hsb665293, hfr665294, he665295, he665296, hm665297, hq665298, hdc, hds, bo665281, bf665284, x665285, x665286, x665287, x665288, x665289, ht665290⟩ := hp665278
  have hm665299 : q664645 ∈ P665291 := hsb665293 q664645 hmq664645
  have hm665300 : q664646 ∈ P665291 := hsb665293 q664646 hmq664646
  have hor665301 : q665282 = q664646 ∨ q665282 ∉ P664643 := hq665298.elim Or.inl (fun n => Or.inr (fun z => n ((rSub_rf (P := P664643)) _ z)))
  have hsb665302 : rSub P664643 P665291 := rSub_tr (rSub_rf (P := P664643)) hsb665293
  have hfr665303 : rFr [q664645, q664646] P664643 F664644 F665292 := rFr_call (rSub_rf (P := P664643)) (rFr_rf (W := []) (P := P664643) (F := F664644)) hfr665294 (fun b hb hn => ⟨nm_n, (nm_c (fun e => hn (e ▸ List.mem_cons_self)) (nm_c (fun e => hn (e ▸ (List.mem_cons_of_mem _ List.mem_cons_self))) nm_n))⟩)
  change G _ _ _ _ _ _ _ (.ref q664645 :: _) _ _ _
  refine G_widen (cs' := 1) (sl' := 2 * (n665283 - n664651)) (by omega) (by omega) ?_
  refine G_pop dr_cJ4_append_bf812_5 rfl ?_
  refine G_aload_n 0 dr_cJ4_append_bf812_6 rfl ?_
  exact G_aretA (FieldType.object "java/lang/StringBuilder") dr_cJ4_append_bf812_7 rfl (by first | exact Or.inl ⟨_, rfl⟩ | exact Or.inr ⟨_, rfl⟩) (Or.inr ⟨_, rfl⟩) (Nat.le_of_ble_eq_true rfl) (show 2 * (n665283 - n664651) ≤ (4 * n664651 + 64) by omega) ⟨P665291, F665292, o665281, q665282, n665283, f665284, rfl, rfl, hsb665302, hfr665303, he665295, he665296, hm665297, hor665301, (Nat.le_of_ble_eq_true rfl), (by omega), bo665281, bf665284, (by have qa0 : Int32.toInt 0 = 0 := (by decide); omega), (by have qa0 : Int32.toInt 0 = 0 := (by decide); omega), (by have qa0 : Int32.toInt 0 = 0 := (by decide); omega), (by have qa0 : Int32.toInt 0 = 0 := (by decide); omega), (by have qa0 : Int32.toInt 0 = 0 := (by decide); omega), (fun R c1 => c1 o665281 n665283 f665284 bo665281 ht665290)⟩
/- tr_RReader_isDigit2: result -/
def tr_RReader_isDigit2 (a0 : Int32) (o1 : Int32) : Prop := ∀ R : (Int32) → Prop,
  (a0.toInt < 48 → R (0 : Int32)) →
  (48 ≤ a0.toInt → 57 < a0.toInt → R (0 : Int32)) →
  (48 ≤ a0.toInt → a0.toInt ≤ 57 → R (1 : Int32)) →
  R o1
abbrev ky_665370_Reader_isDigit : gKey := (cX14_isDigit, 1, "SpillForgeModel$Reader", (some FieldType.boolean), [], "isDigit", fun _ _ => True)
def pp_665370_Reader_isDigit (D : va_G) (I : FieldType → ClassId) (P665367 : List Nat) (F665368 : Nat → va_E) (p665369 : Int32) : Option Value → va_W → Nat → Nat → Prop := fun r w dc ds => ∃ (o665377 : Int32), r = some (.int o665377) ∧ w = va_pl P665367 F665368 ∧ dc ≤ 0 ∧ ds ≤ 0 ∧ gB o665377 0 1 ∧ isP p665369 48 57 o665377 ∧ tr_RReader_isDigit2 p665369 o665377
set_option maxRecDepth 100000 in
set_option maxHeartbeats 4000000 in
theorem cp_665370_Reader_isDigit (l : Launch) (hl0 : l.stackTraces = false) (D : va_G) (I : FieldType → ClassId) (P665367 : List Nat) (F665368 : Nat → va_E) (p665369 : Int32)  : CtA (gV D I) l yX14_isDigit cX14_isDigit 1 (some FieldType.boolean) 0 0 0 0 [.int p665369] (va_pl P665367 F665368) (pp_665370_Reader_isDigit D I P665367 F665368 p665369) gNA := by
  refine CtA_of hl0 (by decide) (Nat.le_of_ble_eq_true rfl) ?_
  have bp665369 := gB_any p665369
  refine G_iload_n 0 dr_cX14_isDigit_0 rfl ?_
  refine G_bipush 48 dr_cX14_isDigit_1 (by decide +kernel) ?_
  refine G_icmp_lt 16 dr_cX14_isDigit_3 (by decide +kernel) (fun hc665371 => ?_) (fun hc665371 => ?_)
  · have r665372 : p665369.toInt < 48 := gj_lt hc665371 (show Int32.toInt 48 = 48 by decide)
    have bp665369' : gB p665369 (-2147483648) 47 := ⟨by omega, by omega⟩
    refine G_iconst 0 dr_cX14_isDigit_16 (by decide +kernel) ?_
    exact G_zretA FieldType.boolean dr_cX14_isDigit_17 rfl rfl (Nat.le_of_ble_eq_true rfl) (Nat.le_of_ble_eq_true rfl) ⟨0, rfl, rfl, (Nat.le_of_ble_eq_true rfl), (Nat.le_of_ble_eq_true rfl), (gB_w (gBl (show Int32.toInt 0 = 0 by decide)) (by decide) (by decide)), (isP_n (by omega)), (fun R c1 c2 c3 => c1 r665372)⟩
  · have r665373 : 48 ≤ p665369.toInt := gj_nlt hc665371 (show Int32.toInt 48 = 48 by decide)
    have bp665369' : gB p665369 48 2147483647 := ⟨by omega, by omega⟩
    refine G_iload_n 0 dr_cX14_isDigit_6 rfl ?_
    refine G_bipush 57 dr_cX14_isDigit_7 (by decide +kernel) ?_
    refine G_icmp_gt 16 dr_cX14_isDigit_9 (by decide +kernel) (fun hc665374 => ?_) (fun hc665374 => ?_)
    · have r665375 : 57 < p665369.toInt := gj_ltL hc665374 (show Int32.toInt 57 = 57 by decide)
      have bp665369'' : gB p665369 58 2147483647 := ⟨by omega, by omega⟩
      refine G_iconst 0 dr_cX14_isDigit_16 (by decide +kernel) ?_
      exact G_zretA FieldType.boolean dr_cX14_isDigit_17 rfl rfl (Nat.le_of_ble_eq_true rfl) (Nat.le_of_ble_eq_true rfl) ⟨0, rfl, rfl, (Nat.le_of_ble_eq_true rfl), (Nat.le_of_ble_eq_true rfl), (gB_w (gBl (show Int32.toInt 0 = 0 by decide)) (by decide) (by decide)), (isP_n (by omega)), (fun R c1 c2 c3 => c2 r665373 r665375)⟩
    · have r665376 : p665369.toInt ≤ 57 := gj_nltL hc665374 (show Int32.toInt 57 = 57 by decide)
      have bp665369'' : gB p665369 48 57 := ⟨by omega, by omega⟩
      refine G_iconst 1 dr_cX14_isDigit_12 (by decide +kernel) ?_
      refine G_goto 17 dr_cX14_isDigit_13 (by decide +kernel) ?_
      exact G_zretA FieldType.boolean dr_cX14_isDigit_17 rfl rfl (Nat.le_of_ble_eq_true rfl) (Nat.le_of_ble_eq_true rfl) ⟨1, rfl, rfl, (Nat.le_of_ble_eq_true rfl), (Nat.le_of_ble_eq_true rfl), (gB_w (gBl (show Int32.toInt 1 = 1 by decide)) (by decide) (by decide)), (isP_y (by omega) (by omega)), (fun R c1 c2 c3 => c3 r665373 r665376)⟩
/- tr_RMath_min: result -/
def tr_RMath_min (a0 : Int64) (a1 : Int64) (o1 : Int64) : Prop := ∀ R : (Int64) → Prop,
  (∀ (x1 : Int32), x1 = lg_cmp a0 a1 → 0 < x1.toInt → R a1) →
  (∀ (x1 : Int32), x1 = lg_cmp a0 a1 → x1.toInt ≤ 0 → R a0) →
  R o1
abbrev ky_665424_Math_min : gKey := (cJ9_min_f86c9, 4, "java/lang/Math", (some FieldType.long), [], "min", fun _ _ => True)
def pp_665424_Math_min (D : va_G) (I : FieldType → ClassId) (P665420 : List Nat) (F665421 : Nat → va_E) (pl665422 : Int64) (pl665423 : Int64) : Option Value → va_W → Nat → Nat → Prop := fun r w dc ds => ∃ (ol665429 : Int64), r = some (.long ol665429) ∧ w = va_pl P665420 F665421 ∧ dc ≤ 0 ∧ ds ≤ 0 ∧ lmP pl665422 pl665423 ol665429 ∧ tr_RMath_min pl665422 pl665423 ol665429
set_option maxRecDepth 100000 in
set_option maxHeartbeats 4000000 in
theorem cp_665424_Math_min (l : Launch) (hl0 : l.stackTraces = false) (D : va_G) (I : FieldType → ClassId) (P665420 : List Nat) (F665421 : Nat → va_E) (pl665422 : Int64) (pl665423 : Int64)  : CtA (gV D I) l yJ9_min_f86c9 cJ9_min_f86c9 4 (some FieldType.long) 0 0 0 0 [.long pl665422, .long pl665423] (va_pl P665420 F665421) (pp_665424_Math_min D I P665420 F665421 pl665422 pl665423) gNA := by
  refine CtA_ofF hl0 (by decide +kernel) (Nat.le_of_ble_eq_true rfl) ?_
  refine G_lload_n 0 dr_cJ9_min_f86c9_0 rfl ?_
  refine G_lload_n 1 dr_cJ9_min_f86c9_1 rfl ?_
  refine G_lcmp dr_cJ9_min_f86c9_2 (G_nam fun z665425 hz665425 => ?_)
  have bz665425 : gB z665425 (-1) 1 := gB_cmp hz665425
  refine G_if_gt 10 dr_cJ9_min_f86c9_3 (by decide +kernel) (fun hc665426 => ?_) (fun hc665426 => ?_)
  · have r665427 : 0 < z665425.toInt := gj_ltL hc665426 (show Int32.toInt 0 = 0 by decide)
    have bz665425' : gB z665425 1 1 := ⟨by omega, by omega⟩
    have lhc665426 := gC_cmpS hz665425 (by omega)
    refine G_lload_n 1 dr_cJ9_min_f86c9_10 rfl ?_
    exact G_lretA dr_cJ9_min_f86c9_11 rfl (Nat.le_of_ble_eq_true rfl) (Nat.le_of_ble_eq_true rfl) ⟨pl665423, rfl, rfl, (Nat.le_of_ble_eq_true rfl), (Nat.le_of_ble_eq_true rfl), (by first | exact lm_r | exact lm_l (by assumption) (by omega)), (fun R c1 c2 => c1 z665425 hz665425 r665427)⟩
  · have r665428 : z665425.toInt ≤ 0 := gj_nltL hc665426 (show Int32.toInt 0 = 0 by decide)
    have bz665425' : gB z665425 (-1) 0 := ⟨by omega, by omega⟩
    refine G_lload_n 0 dr_cJ9_min_f86c9_6 rfl ?_
    refine G_goto 11 dr_cJ9_min_f86c9_7 (by decide +kernel) ?_
    exact G_lretA dr_cJ9_min_f86c9_11 rfl (Nat.le_of_ble_eq_true rfl) (Nat.le_of_ble_eq_true rfl) ⟨pl665422, rfl, rfl, (Nat.le_of_ble_eq_true rfl), (Nat.le_of_ble_eq_true rfl), (by first | exact lm_r | exact lm_l (by assumption) (by omega)), (fun R c1 c2 => c2 z665425 hz665425 r665428)⟩
/- tl_RReader_number_16: l2, a0_at; out: l2, a0_at -/
def tl_RReader_number_16 (a0_n : Int32) (a0_t_v : Nat → Int32) (s1 : Int64) (s2 : Int32) (k : Nat) (e1 : Int64) (e2 : Int32) : Prop := ∀ R : (Int64) → (Int32) → Nat → (Int64) → (Int32) → Prop,
  (∀ (l2_1 : Int64) (a0_at_1 : Int32), gB a0_at_1 0 8192 → a0_n.toInt ≤ a0_at_1.toInt → R l2_1 a0_at_1 82 l2_1 a0_at_1) →
  (∀ (l2_1 : Int64) (a0_at_1 : Int32) (x1 : Int32) (x2 : Int32), gB a0_at_1 0 8192 → a0_at_1.toInt < a0_n.toInt → x1 = a0_t_v a0_at_1.toNatClampNeg → gB x1 (-128) 127 → gB x2 0 1 → tr_RReader_isDigit2 x1 x2 → x2.toInt = 0 → R l2_1 a0_at_1 82 l2_1 a0_at_1) →
  (∀ (l2_1 : Int64) (a0_at_1 : Int32) (x1 : Int32) (x2 : Int32) (x3 : Int64) (x4 : Int64) (x5 : Int64) (x6 : Int64) (x7 : Int64) (x8 : Int32) (k : Nat) (e1 : Int64) (e2 : Int32), gB a0_at_1 0 8192 → a0_at_1.toInt < a0_n.toInt → x1 = a0_t_v a0_at_1.toNatClampNeg → gB x1 (-128) 127 → gB x2 0 1 → tr_RReader_isDigit2 x1 x2 → x2.toInt ≠ 0 → x3 = l2_1 * (10 : Int64) → x4 = x1.toInt64 → x5 = x3 + x4 → x6 = x5 - (48 : Int64) → tr_RMath_min x6 (1099511627776 : Int64) x7 → x8.toInt = a0_at_1.toInt + 1 → R x7 x8 k e1 e2 → R l2_1 a0_at_1 k e1 e2) →
  R s1 s2 k e1 e2
/- tl_RReader_number_16_2: l2, a0_at; out: l2, a0_at -/
def tl_RReader_number_16_2 (a0_n : Int32) (a0_t_v : Nat → Int32) (s1 : Int64) (s2 : Int32) (k : Nat) (e1 : Int64) (e2 : Int32) : Prop := ∀ R : (Int64) → (Int32) → Nat → (Int64) → (Int32) → Prop,
  (∀ (l2_1 : Int64) (a0_at_1 : Int32), gB a0_at_1 0 8192 → a0_n.toInt ≤ a0_at_1.toInt → R l2_1 a0_at_1 82 l2_1 a0_at_1) →
  (∀ (l2_1 : Int64) (a0_at_1 : Int32) (x1 : Int32) (x2 : Int32), gB a0_at_1 0 8192 → a0_at_1.toInt < a0_n.toInt → x1 = a0_t_v a0_at_1.toNatClampNeg → gB x1 (-128) 127 → gB x2 0 1 → tr_RReader_isDigit2 x1 x2 → x2.toInt = 0 → R l2_1 a0_at_1 82 l2_1 a0_at_1) →
  (∀ (l2_1 : Int64) (a0_at_1 : Int32) (x1 : Int32) (x2 : Int32) (x3 : Int64) (x4 : Int64) (x5 : Int64) (x6 : Int64) (x7 : Int64) (x8 : Int32) (k : Nat) (e1 : Int64) (e2 : Int32), gB a0_at_1 0 8192 → a0_at_1.toInt < a0_n.toInt → x1 = a0_t_v a0_at_1.toNatClampNeg → gB x1 (-128) 127 → gB x2 0 1 → tr_RReader_isDigit2 x1 x2 → x2.toInt ≠ 0 → x3 = l2_1 * (10 : Int64) → x4 = x1.toInt64 → x5 = x3 + x4 → x6 = x5 - (48 : Int64) → tr_RMath_min x6 (1099511627776 : Int64) x7 → x8.toInt = a0_at_1.toInt + 1 → R x7 x8 k e1 e2 → R l2_1 a0_at_1 k e1 e2) →
  R s1 s2 k e1 e2
/- tr_RReader_number: a.0...at, a.0...kind, a.0...value -/
def tr_RReader_number (a1 : Int32) (a0_n : Int32) (a0_at : Int32) (a0_t_v : Nat → Int32) (o1 : Int32) (o2 : Int32) (o3 : Int32) (o4 : gTx) : Prop := ∀ R : (Int32) → (Int32) → (Int32) → (gTx) → Prop,
  (∀ (x1 : Int64) (x2 : Int32) (x3 : Int32) (x4 : Int32) (x5 : Int64), a1.toInt = 0 → tl_RReader_number_16 a0_n a0_t_v (0 : Int64) a0_at 82 x1 x2 → x3 = x1.toInt32 → x4 = x1.toInt32 → x5 = x4.toInt64 → (¬ x1 = x5) → R x2 (6 : Int32) x3 (0, fun _ => 0)) →
  (∀ (x1 : Int64) (x2 : Int32) (x3 : Int32) (x4 : Int32) (x5 : Int64), a1.toInt = 0 → tl_RReader_number_16 a0_n a0_t_v (0 : Int64) a0_at 82 x1 x2 → x3 = x1.toInt32 → x4 = x1.toInt32 → x5 = x4.toInt64 → x1 = x5 → R x2 (4 : Int32) x3 (0, fun _ => 0)) →
  (∀ (x1 : Int32) (x2 : Int64) (x3 : Int32) (x4 : Int64) (x5 : Int32) (x6 : Int32) (x7 : Int64), a1.toInt ≠ 0 → x1.toInt = a0_at.toInt + 1 → tl_RReader_number_16_2 a0_n a0_t_v (0 : Int64) x1 82 x2 x3 → x4 = -x2 → x5 = x4.toInt32 → x6 = x4.toInt32 → x7 = x6.toInt64 → (¬ x4 = x7) → R x3 (6 : Int32) x5 (0, fun _ => 0)) →
  (∀ (x1 : Int32) (x2 : Int64) (x3 : Int32) (x4 : Int64) (x5 : Int32) (x6 : Int32) (x7 : Int64), a1.toInt ≠ 0 → x1.toInt = a0_at.toInt + 1 → tl_RReader_number_16_2 a0_n a0_t_v (0 : Int64) x1 82 x2 x3 → x4 = -x2 → x5 = x4.toInt32 → x6 = x4.toInt32 → x7 = x6.toInt64 → x4 = x7 → R x3 (4 : Int32) x5 (0, fun _ => 0)) →
  R o1 o2 o3 o4
