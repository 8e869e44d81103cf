theorem dr_cJ6_getChars_ba4f3_0 : decode cJ6_getChars_ba4f3 0 = .ok (.iload_n 1, 1) := by decide +kernel
theorem dr_cJ6_getChars_ba4f3_1 : decode cJ6_getChars_ba4f3 1 = .ok (.istore 5, 2) := by decide +kernel
theorem dr_cJ6_getChars_ba4f3_3 : decode cJ6_getChars_ba4f3 3 = .ok (.iload_n 0, 1) := by decide +kernel
theorem dr_cJ6_getChars_ba4f3_4 : decode cJ6_getChars_ba4f3 4 = .ok (.ifCond .ge 7, 3) := by decide +kernel
theorem dr_cJ6_getChars_ba4f3_11 : decode cJ6_getChars_ba4f3 11 = .ok (.iconst 0, 1) := by decide +kernel
theorem dr_cJ6_getChars_ba4f3_12 : decode cJ6_getChars_ba4f3 12 = .ok (.istore 6, 2) := by decide +kernel
theorem dr_cJ6_getChars_ba4f3_14 : decode cJ6_getChars_ba4f3 14 = .ok (.iload 6, 2) := by decide +kernel
theorem dr_cJ6_getChars_ba4f3_16 : decode cJ6_getChars_ba4f3 16 = .ok (.ifCond .ne 6, 3) := by decide +kernel
theorem dr_cJ6_getChars_ba4f3_19 : decode cJ6_getChars_ba4f3 19 = .ok (.iload_n 0, 1) := by decide +kernel
theorem dr_cJ6_getChars_ba4f3_20 : decode cJ6_getChars_ba4f3 20 = .ok (.ineg, 1) := by decide +kernel
theorem dr_cJ6_getChars_ba4f3_21 : decode cJ6_getChars_ba4f3 21 = .ok (.istore_n 0, 1) := by decide +kernel
theorem dr_cJ6_getChars_ba4f3_22 : decode cJ6_getChars_ba4f3 22 = .ok (.iload_n 0, 1) := by decide +kernel
theorem dr_cJ6_getChars_ba4f3_23 : decode cJ6_getChars_ba4f3 23 = .ok (.bipush (-100), 2) := by decide +kernel
theorem dr_cJ6_getChars_ba4f3_25 : decode cJ6_getChars_ba4f3 25 = .ok (.if_icmp .gt 47, 3) := by decide +kernel
theorem dr_cJ6_getChars_ba4f3_72 : decode cJ6_getChars_ba4f3 72 = .ok (.aload_n 2, 1) := by decide +kernel
theorem dr_cJ6_getChars_ba4f3_73 : decode cJ6_getChars_ba4f3 73 = .ok (.iinc 5 (-1), 3) := by decide +kernel
theorem dr_cJ6_getChars_ba4f3_76 : decode cJ6_getChars_ba4f3 76 = .ok (.iload 5, 2) := by decide +kernel
theorem dr_cJ6_getChars_ba4f3_78 : decode cJ6_getChars_ba4f3 78 = .ok (.getstatic 83, 3) := by decide +kernel
theorem wr_8_118 : (Jvm.Cond.fieldLink "java/lang/Integer" (83 : Nat) "java/lang/Integer" "DigitOnes" "[B") ∈ gw := gw_8 118 rfl rfl
theorem dr_cJ6_getChars_ba4f3_81 : decode cJ6_getChars_ba4f3 81 = .ok (.iload_n 0, 1) := by decide +kernel
theorem dr_cJ6_getChars_ba4f3_82 : decode cJ6_getChars_ba4f3 82 = .ok (.ineg, 1) := by decide +kernel
theorem dr_cJ6_getChars_ba4f3_83 : decode cJ6_getChars_ba4f3 83 = .ok (.baload, 1) := by decide +kernel
theorem dr_cJ6_getChars_ba4f3_84 : decode cJ6_getChars_ba4f3 84 = .ok (.bastore, 1) := by decide +kernel
theorem dr_cJ6_getChars_ba4f3_85 : decode cJ6_getChars_ba4f3 85 = .ok (.iload_n 0, 1) := by decide +kernel
theorem dr_cJ6_getChars_ba4f3_86 : decode cJ6_getChars_ba4f3 86 = .ok (.bipush (-9), 2) := by decide +kernel
theorem dr_cJ6_getChars_ba4f3_88 : decode cJ6_getChars_ba4f3 88 = .ok (.if_icmp .ge 16, 3) := by decide +kernel
theorem dr_cJ6_getChars_ba4f3_104 : decode cJ6_getChars_ba4f3 104 = .ok (.iload 6, 2) := by decide +kernel
theorem dr_cJ6_getChars_ba4f3_106 : decode cJ6_getChars_ba4f3 106 = .ok (.ifCond .eq 12, 3) := by decide +kernel
theorem dr_cJ6_getChars_ba4f3_118 : decode cJ6_getChars_ba4f3 118 = .ok (.iload 5, 2) := by decide +kernel
theorem dr_cJ6_getChars_ba4f3_120 : decode cJ6_getChars_ba4f3 120 = .ok (.ireturn, 1) := by decide +kernel
theorem dr_cJ6_getChars_ba4f3_91 : decode cJ6_getChars_ba4f3 91 = .ok (.aload_n 2, 1) := by decide +kernel
theorem dr_cJ6_getChars_ba4f3_92 : decode cJ6_getChars_ba4f3 92 = .ok (.iinc 5 (-1), 3) := by decide +kernel
theorem dr_cJ6_getChars_ba4f3_95 : decode cJ6_getChars_ba4f3 95 = .ok (.iload 5, 2) := by decide +kernel
theorem dr_cJ6_getChars_ba4f3_97 : decode cJ6_getChars_ba4f3 97 = .ok (.getstatic 87, 3) := by decide +kernel
theorem wr_8_120 : (Jvm.Cond.fieldLink "java/lang/Integer" (87 : Nat) "java/lang/Integer" "DigitTens" "[B") ∈ gw := gw_8 120 rfl rfl
theorem dr_cJ6_getChars_ba4f3_100 : decode cJ6_getChars_ba4f3 100 = .ok (.iload_n 0, 1) := by decide +kernel
theorem dr_cJ6_getChars_ba4f3_101 : decode cJ6_getChars_ba4f3 101 = .ok (.ineg, 1) := by decide +kernel
theorem dr_cJ6_getChars_ba4f3_102 : decode cJ6_getChars_ba4f3 102 = .ok (.baload, 1) := by decide +kernel
theorem dr_cJ6_getChars_ba4f3_103 : decode cJ6_getChars_ba4f3 103 = .ok (.bastore, 1) := by decide +kernel
theorem dr_cJ6_getChars_ba4f3_28 : decode cJ6_getChars_ba4f3 28 = .ok (.iload_n 0, 1) := by decide +kernel
theorem dr_cJ6_getChars_ba4f3_29 : decode cJ6_getChars_ba4f3 29 = .ok (.bipush 100, 2) := by decide +kernel
theorem dr_cJ6_getChars_ba4f3_31 : decode cJ6_getChars_ba4f3 31 = .ok (.idiv, 1) := by decide +kernel
theorem dr_cJ6_getChars_ba4f3_32 : decode cJ6_getChars_ba4f3 32 = .ok (.istore_n 3, 1) := by decide +kernel
theorem dr_cJ6_getChars_ba4f3_33 : decode cJ6_getChars_ba4f3 33 = .ok (.iload_n 3, 1) := by decide +kernel
theorem dr_cJ6_getChars_ba4f3_34 : decode cJ6_getChars_ba4f3 34 = .ok (.bipush 100, 2) := by decide +kernel
theorem dr_cJ6_getChars_ba4f3_36 : decode cJ6_getChars_ba4f3 36 = .ok (.imul, 1) := by decide +kernel
theorem dr_cJ6_getChars_ba4f3_37 : decode cJ6_getChars_ba4f3 37 = .ok (.iload_n 0, 1) := by decide +kernel
theorem dr_cJ6_getChars_ba4f3_38 : decode cJ6_getChars_ba4f3 38 = .ok (.isub, 1) := by decide +kernel
theorem dr_cJ6_getChars_ba4f3_39 : decode cJ6_getChars_ba4f3 39 = .ok (.istore 4, 2) := by decide +kernel
theorem dr_cJ6_getChars_ba4f3_41 : decode cJ6_getChars_ba4f3 41 = .ok (.iload_n 3, 1) := by decide +kernel
theorem dr_cJ6_getChars_ba4f3_42 : decode cJ6_getChars_ba4f3 42 = .ok (.istore_n 0, 1) := by decide +kernel
theorem dr_cJ6_getChars_ba4f3_43 : decode cJ6_getChars_ba4f3 43 = .ok (.aload_n 2, 1) := by decide +kernel
theorem dr_cJ6_getChars_ba4f3_44 : decode cJ6_getChars_ba4f3 44 = .ok (.iinc 5 (-1), 3) := by decide +kernel
theorem dr_cJ6_getChars_ba4f3_47 : decode cJ6_getChars_ba4f3 47 = .ok (.iload 5, 2) := by decide +kernel
theorem dr_cJ6_getChars_ba4f3_49 : decode cJ6_getChars_ba4f3 49 = .ok (.getstatic 83, 3) := by decide +kernel
theorem dr_cJ6_getChars_ba4f3_52 : decode cJ6_getChars_ba4f3 52 = .ok (.iload 4, 2) := by decide +kernel
theorem dr_cJ6_getChars_ba4f3_54 : decode cJ6_getChars_ba4f3 54 = .ok (.baload, 1) := by decide +kernel
theorem dr_cJ6_getChars_ba4f3_55 : decode cJ6_getChars_ba4f3 55 = .ok (.bastore, 1) := by decide +kernel
theorem dr_cJ6_getChars_ba4f3_56 : decode cJ6_getChars_ba4f3 56 = .ok (.aload_n 2, 1) := by decide +kernel
theorem dr_cJ6_getChars_ba4f3_57 : decode cJ6_getChars_ba4f3 57 = .ok (.iinc 5 (-1), 3) := by decide +kernel
theorem dr_cJ6_getChars_ba4f3_60 : decode cJ6_getChars_ba4f3 60 = .ok (.iload 5, 2) := by decide +kernel
theorem dr_cJ6_getChars_ba4f3_62 : decode cJ6_getChars_ba4f3 62 = .ok (.getstatic 87, 3) := by decide +kernel
theorem dr_cJ6_getChars_ba4f3_65 : decode cJ6_getChars_ba4f3 65 = .ok (.iload 4, 2) := by decide +kernel
theorem dr_cJ6_getChars_ba4f3_67 : decode cJ6_getChars_ba4f3 67 = .ok (.baload, 1) := by decide +kernel
theorem dr_cJ6_getChars_ba4f3_68 : decode cJ6_getChars_ba4f3 68 = .ok (.bastore, 1) := by decide +kernel
theorem dr_cJ6_getChars_ba4f3_69 : decode cJ6_getChars_ba4f3 69 = .ok (.goto (-47), 3) := by decide +kernel
theorem dr_cJ6_getChars_ba4f3_7 : decode cJ6_getChars_ba4f3 7 = .ok (.iconst 1, 1) := by decide +kernel
theorem dr_cJ6_getChars_ba4f3_8 : decode cJ6_getChars_ba4f3 8 = .ok (.goto 4, 3) := by decide +kernel
theorem dr_cJ6_getChars_ba4f3_109 : decode cJ6_getChars_ba4f3 109 = .ok (.aload_n 2, 1) := by decide +kernel
theorem dr_cJ6_getChars_ba4f3_110 : decode cJ6_getChars_ba4f3 110 = .ok (.iinc 5 (-1), 3) := by decide +kernel
theorem dr_cJ6_getChars_ba4f3_113 : decode cJ6_getChars_ba4f3 113 = .ok (.iload 5, 2) := by decide +kernel
theorem dr_cJ6_getChars_ba4f3_115 : decode cJ6_getChars_ba4f3 115 = .ok (.bipush 45, 2) := by decide +kernel
theorem dr_cJ6_getChars_ba4f3_117 : decode cJ6_getChars_ba4f3 117 = .ok (.bastore, 1) := by decide +kernel
theorem dr_cJ5_append_c97b9_0 : decode cJ5_append_c97b9 0 = .ok (.aload_n 0, 1) := by decide +kernel
theorem dr_cJ5_append_c97b9_1 : decode cJ5_append_c97b9 1 = .ok (.getfield 79, 3) := by decide +kernel
theorem dr_cJ5_append_c97b9_4 : decode cJ5_append_c97b9 4 = .ok (.istore_n 2, 1) := by decide +kernel
theorem dr_cJ5_append_c97b9_5 : decode cJ5_append_c97b9 5 = .ok (.iload_n 2, 1) := by decide +kernel
theorem dr_cJ5_append_c97b9_6 : decode cJ5_append_c97b9 6 = .ok (.iload_n 1, 1) := by decide +kernel
theorem dr_cJ5_append_c97b9_7 : decode cJ5_append_c97b9 7 = .ok (.invokestatic 245, 3) := by decide +kernel
theorem wr_8_112 : (Jvm.Cond.methodLink "java/lang/AbstractStringBuilder" (245 : Nat) ({ cls := "java/lang/Integer", name := "stringSize", desc := "(I)I" } : Jvm.MethodName)) ∈ gw := gw_8 112 rfl rfl
theorem wr_8_114 : (Jvm.Cond.code ({ cls := "java/lang/Integer", name := "stringSize", desc := "(I)I" } : Jvm.MethodName) prog_29_method_13_code (4 : Nat) (Option.some Jvm.ClassFile.FieldType.int)) ∈ gw := gw_8 114 rfl rfl
theorem wr_8_113 : (Jvm.Cond.static ({ cls := "java/lang/Integer", name := "stringSize", desc := "(I)I" } : Jvm.MethodName)) ∈ gw := gw_8 113 rfl rfl
theorem dr_cJ5_append_c97b9_10 : decode cJ5_append_c97b9 10 = .ok (.iadd, 1) := by decide +kernel
theorem dr_cJ5_append_c97b9_11 : decode cJ5_append_c97b9 11 = .ok (.istore_n 3, 1) := by decide +kernel
theorem dr_cJ5_append_c97b9_12 : decode cJ5_append_c97b9 12 = .ok (.aload_n 0, 1) := by decide +kernel
theorem dr_cJ5_append_c97b9_13 : decode cJ5_append_c97b9 13 = .ok (.iload_n 3, 1) := by decide +kernel
theorem dr_cJ5_append_c97b9_14 : decode cJ5_append_c97b9 14 = .ok (.invokevirtual 100, 3) := by decide +kernel
theorem dr_cJ5_append_c97b9_17 : decode cJ5_append_c97b9 17 = .ok (.aload_n 0, 1) := by decide +kernel
theorem dr_cJ5_append_c97b9_18 : decode cJ5_append_c97b9 18 = .ok (.invokevirtual 83, 3) := by decide +kernel
theorem dr_cJ5_append_c97b9_21 : decode cJ5_append_c97b9 21 = .ok (.ifCond .eq 16, 3) := by decide +kernel
theorem dr_cJ5_append_c97b9_24 : decode cJ5_append_c97b9 24 = .ok (.iload_n 1, 1) := by decide +kernel
theorem dr_cJ5_append_c97b9_25 : decode cJ5_append_c97b9 25 = .ok (.iload_n 3, 1) := by decide +kernel
theorem dr_cJ5_append_c97b9_26 : decode cJ5_append_c97b9 26 = .ok (.aload_n 0, 1) := by decide +kernel
theorem dr_cJ5_append_c97b9_27 : decode cJ5_append_c97b9 27 = .ok (.getfield 15, 3) := by decide +kernel
theorem dr_cJ5_append_c97b9_30 : decode cJ5_append_c97b9 30 = .ok (.invokestatic 248, 3) := by decide +kernel
theorem wr_8_115 : (Jvm.Cond.methodLink "java/lang/AbstractStringBuilder" (248 : Nat) ({ cls := "java/lang/Integer", name := "getChars", desc := "(II[B)I" } : Jvm.MethodName)) ∈ gw := gw_8 115 rfl rfl
theorem wr_8_117 : (Jvm.Cond.code ({ cls := "java/lang/Integer", name := "getChars", desc := "(II[B)I" } : Jvm.MethodName) prog_29_method_12_code (7 : Nat) (Option.some Jvm.ClassFile.FieldType.int)) ∈ gw := gw_8 117 rfl rfl
theorem wr_8_116 : (Jvm.Cond.static ({ cls := "java/lang/Integer", name := "getChars", desc := "(II[B)I" } : Jvm.MethodName)) ∈ gw := gw_8 116 rfl rfl
theorem dr_cJ5_append_c97b9_33 : decode cJ5_append_c97b9 33 = .ok (.pop, 1) := by decide +kernel
theorem dr_cJ5_append_c97b9_34 : decode cJ5_append_c97b9 34 = .ok (.goto 14, 3) := by decide +kernel
theorem dr_cJ5_append_c97b9_48 : decode cJ5_append_c97b9 48 = .ok (.aload_n 0, 1) := by decide +kernel
theorem dr_cJ5_append_c97b9_49 : decode cJ5_append_c97b9 49 = .ok (.iload_n 3, 1) := by decide +kernel
theorem dr_cJ5_append_c97b9_50 : decode cJ5_append_c97b9 50 = .ok (.putfield 79, 3) := by decide +kernel
theorem dr_cJ5_append_c97b9_53 : decode cJ5_append_c97b9 53 = .ok (.aload_n 0, 1) := by decide +kernel
theorem dr_cJ5_append_c97b9_54 : decode cJ5_append_c97b9 54 = .ok (.areturn, 1) := by decide +kernel
theorem dr_cJ4_append_bf812_0 : decode cJ4_append_bf812 0 = .ok (.aload_n 0, 1) := by decide +kernel
theorem dr_cJ4_append_bf812_1 : decode cJ4_append_bf812 1 = .ok (.iload_n 1, 1) := by decide +kernel
theorem dr_cJ4_append_bf812_2 : decode cJ4_append_bf812 2 = .ok (.invokespecial 53, 3) := by decide +kernel
theorem wr_8_109 : (Jvm.Cond.methodLink "java/lang/StringBuilder" (53 : Nat) ({ cls := "java/lang/AbstractStringBuilder", name := "append", desc := "(I)Ljava/lang/AbstractStringBuilder;" } : Jvm.MethodName)) ∈ gw := gw_8 109 rfl rfl
theorem wr_8_111 : (Jvm.Cond.code ({ cls := "java/lang/AbstractStringBuilder", name := "append", desc := "(I)Ljava/lang/AbstractStringBuilder;" } : Jvm.MethodName) prog_21_method_32_code (4 : Nat) (Option.some (Jvm.ClassFile.FieldType.object "java/lang/AbstractStringBuilder"))) ∈ gw := gw_8 111 rfl rfl
theorem wr_8_110 : (Jvm.Cond.instanceMethod ({ cls := "java/lang/AbstractStringBuilder", name := "append", desc := "(I)Ljava/lang/AbstractStringBuilder;" } : Jvm.MethodName)) ∈ gw := gw_8 110 rfl rfl
theorem wr_11_228 : (Jvm.Cond.sameMethod "java/lang/AbstractStringBuilder" "java/lang/AbstractStringBuilder" "append" "(I)Ljava/lang/AbstractStringBuilder;") ∈ gw := gw_11 228 rfl rfl
theorem dr_cJ4_append_bf812_5 : decode cJ4_append_bf812 5 = .ok (.pop, 1) := by decide +kernel
theorem dr_cJ4_append_bf812_6 : decode cJ4_append_bf812 6 = .ok (.aload_n 0, 1) := by decide +kernel
theorem dr_cJ4_append_bf812_7 : decode cJ4_append_bf812 7 = .ok (.areturn, 1) := by decide +kernel
theorem dr_cJ9_min_f86c9_0 : decode cJ9_min_f86c9 0 = .ok (.lload_n 0, 1) := by decide +kernel
theorem dr_cJ9_min_f86c9_1 : decode cJ9_min_f86c9 1 = .ok (.lload_n 2, 1) := by decide +kernel
theorem dr_cJ9_min_f86c9_2 : decode cJ9_min_f86c9 2 = .ok (.lcmp, 1) := by decide +kernel
theorem dr_cJ9_min_f86c9_3 : decode cJ9_min_f86c9 3 = .ok (.ifCond .gt 7, 3) := by decide +kernel
theorem dr_cJ9_min_f86c9_10 : decode cJ9_min_f86c9 10 = .ok (.lload_n 2, 1) := by decide +kernel
theorem dr_cJ9_min_f86c9_11 : decode cJ9_min_f86c9 11 = .ok (.lreturn, 1) := by decide +kernel
theorem dr_cJ9_min_f86c9_6 : decode cJ9_min_f86c9 6 = .ok (.lload_n 0, 1) := by decide +kernel
theorem dr_cJ9_min_f86c9_7 : decode cJ9_min_f86c9 7 = .ok (.goto 4, 3) := by decide +kernel
abbrev ky_664526_Integer_getChars : gKey := (cJ6_getChars_ba4f3, 7, "java/lang/Integer", (some FieldType.int), [], "getChars", fun _ _ => True)
def pp_664526_Integer_getChars (D : va_G) (I : FieldType → ClassId) (P664516 : List Nat) (F664517 : Nat → va_E) (q664518 : Nat) (p664519 : Int32) (p664520 : Int32) (f664521 : Nat → Int32) (n664522 : Nat) : Option Value → va_W → Nat → Nat → Prop := fun r w dc ds => ∃ (F664920 : Nat → va_E) (o664918 : Int32) (f664917 : Nat → Int32), r = some (.int o664918) ∧ w = va_pl P664516 F664920 ∧ rFr [q664518] P664516 F664517 F664920 ∧ F664920 q664518 = .inl (I .byte, n664522, .inl f664917) ∧ dc ≤ 0 ∧ ds ≤ 0 ∧ gB o664918 0 16777215 ∧ gF f664917 (-128) 127 ∧ tr_RInteger_getChars p664519 p664520 f664521 o664918 f664917
set_option maxRecDepth 100000 in
set_option maxHeartbeats 4000000 in
theorem cp_664526_Integer_getChars (l : Launch) (hl0 : l.stackTraces = false) (D : va_G) (I : FieldType → ClassId) (P664516 : List Nat) (F664517 : Nat → va_E) (q664518 : Nat) (p664519 : Int32) (p664520 : Int32) (f664521 : Nat → Int32) (n664522 : Nat) (hmq664518 : q664518 ∈ P664516) (heq664518 : F664517 q664518 = .inl (I .byte, n664522, .inl f664521)) (bp664520 : gB p664520 0 16777216) (bf664521 : gF f664521 (-128) 127) (x664523 : p664520.toInt ≤ (n664522 : Int)) (x664524 : dgS p664519.toInt p664520.toInt) (x664525 : ((n664522 : Int) ≤ 16777216)) : CtA (gV D I) l yJ6_getChars_ba4f3 cJ6_getChars_ba4f3 7 (some FieldType.int) 0 0 0 0 [.int p664519, .int p664520, .ref q664518] (va_pl P664516 F664517) (pp_664526_Integer_getChars D I P664516 F664517 q664518 p664519 p664520 f664521 n664522) gNA := by
  refine CtA_ofF hl0 (by decide +kernel) (Nat.le_of_ble_eq_true rfl) ?_
  have bp664519 := gB_any p664519
  refine G_iload_n 1 dr_cJ6_getChars_ba4f3_0 rfl ?_
  refine G_istore (L' := [(5, .int p664520), (0, .int p664519), (1, .int p664520), (2, .ref q664518)]) dr_cJ6_getChars_ba4f3_1 (Nat.le_of_ble_eq_true rfl) rfl ?_
  refine G_iload_n 1 dr_cJ6_getChars_ba4f3_3 rfl ?_
  refine G_if_ge 11 dr_cJ6_getChars_ba4f3_4 (by decide +kernel) (fun hc664527 => ?_) (fun hc664527 => ?_)
  · have r664528 : 0 ≤ p664519.toInt := gj_leL hc664527 (show Int32.toInt 0 = 0 by decide)
    have bp664519' : gB p664519 0 2147483647 := ⟨by omega, by omega⟩
    refine G_iconst 0 dr_cJ6_getChars_ba4f3_11 (by decide +kernel) ?_
    refine G_istore (L' := [(6, .int 0), (5, .int p664520), (0, .int p664519), (1, .int p664520), (2, .ref q664518)]) dr_cJ6_getChars_ba4f3_12 (Nat.le_of_ble_eq_true rfl) rfl ?_
    refine G_iload 0 dr_cJ6_getChars_ba4f3_14 rfl ?_
    refine G_if_ne 22 dr_cJ6_getChars_ba4f3_16 (by decide +kernel) (fun hc => absurd hc (by decide)) (fun _ => ?_)
    refine G_iload_n 2 dr_cJ6_getChars_ba4f3_19 rfl ?_
    refine G_ineg dr_cJ6_getChars_ba4f3_20 (G_nam fun z664529 hz664529 => ?_)
    have ez664529 : z664529.toInt = -p664519.toInt := gI_neg hz664529 bp664519' (by decide)
    have bz664529 : gB z664529 (-2147483647) 0 := ⟨by omega, by omega⟩
    refine G_istore_n (L' := [(0, .int z664529), (6, .int 0), (5, .int p664520), (1, .int p664520), (2, .ref q664518)]) dr_cJ6_getChars_ba4f3_21 (Nat.le_of_ble_eq_true rfl) rfl ?_
    have hlp22_664646 : ∀ (n22_664646 : Nat) (F664641 : Nat → va_E) (g664638 : Int32) (g664639 : Int32) (f664640 : Nat → Int32), gB g664638 (-2147483647) 0 → gB g664639 0 16777216 → gF f664640 (-128) 127 → rFr [q664518] P664516 F664517 F664641 → F664641 q664518 = .inl (I .byte, n664522, .inl f664640) → g664638.toInt ≤ 0 → dgB g664638.toInt (g664639.toInt - 0) → g664639.toInt ≤ p664520.toInt → (∀ (k : Nat) (e1 : Int32) (e2 : Int32) (e3 : Nat → Int32), tl_RInteger_getChars_22 g664638 g664639 f664640 k e1 e2 e3 → tl_RInteger_getChars_22 z664529 p664520 f664521 k e1 e2 e3) → (-g664638.toInt).toNat < n22_664646 → G (gV D I) l (gRm 0 0 0 0) (gMA (gV D I) (pp_664526_Integer_getChars D I P664516 F664517 q664518 p664519 p664520 f664521 n664522) gNA 0 0) ky_664526_Integer_getChars 22 [(0, .int g664638), (6, .int 0), (5, .int g664639), (1, .int p664520), (2, .ref q664518)] [] (va_pl P664516 F664641) 0 0 := by
      intro n22_664646
      induction n22_664646 with
      | zero => intro F664641 g664638 g664639 f664640 bg664638 bg664639 bf664640 hfr664643 he664642 x664644 x664645 x664646 kt22_664646 hm22_664646; exact absurd hm22_664646 (Nat.not_lt_zero _)
      | succ n22_664646 ih22_664646 =>
        intro F664641 g664638 g664639 f664640 bg664638 bg664639 bf664640 hfr664643 he664642 x664644 x664645 x664646 kt22_664646 hm22_664646
        refine G_iload_n 0 dr_cJ6_getChars_ba4f3_22 rfl ?_
        refine G_bipush (-100) dr_cJ6_getChars_ba4f3_23 (by decide +kernel) ?_
        refine G_icmp_gt 72 dr_cJ6_getChars_ba4f3_25 (by decide +kernel) (fun hc664647 => ?_) (fun hc664647 => ?_)
        · have r664648 : (-100) < g664638.toInt := gj_ltL hc664647 (show Int32.toInt (-100) = (-100) by decide)
          have bg664638' : gB g664638 (-99) 0 := ⟨by omega, by omega⟩
          have hx664649 : tl_RInteger_getChars_22 z664529 p664520 f664521 72 g664638 g664639 f664640 := kt22_664646 72 g664638 g664639 f664640 (fun R c1 c2 => c1 g664638 g664639 f664640 bg664638 bg664639 r664648)
          have x664650 : (1 : Int) ≤ (g664639.toInt - 0) := dgB_1 x664645
          refine G_aload_n 4 dr_cJ6_getChars_ba4f3_72 rfl ?_
          have bg664639' : gB g664639 1 16777216 := ⟨by omega, by omega⟩
          obtain ⟨z664651, hz664651⟩ : ∃ z : Int32, z = g664639 + Int32.ofInt (-1) := ⟨_, rfl⟩
          have ez664651 : z664651.toInt = g664639.toInt + (-1) := gI_inc hz664651 (by decide) bg664639' (by decide) (by decide)
          have bz664651 : gB z664651 0 16777215 := ⟨by omega, by omega⟩
          refine G_iinc (L' := [(5, .int z664651), (0, .int g664638), (6, .int 0), (1, .int p664520), (2, .ref q664518)]) z664651 2 dr_cJ6_getChars_ba4f3_73 rfl hz664651.symm (Nat.le_of_ble_eq_true rfl) rfl ?_
          refine G_iload 0 dr_cJ6_getChars_ba4f3_76 rfl ?_
          refine G_gets dr_cJ6_getChars_ba4f3_78 wr_8_118 gr_on (fun x664653 hx664652 => ?_)
          subst hx664652
          refine G_iload_n 1 dr_cJ6_getChars_ba4f3_81 rfl ?_
          refine G_ineg dr_cJ6_getChars_ba4f3_82 (G_nam fun z664654 hz664654 => ?_)
          have ez664654 : z664654.toInt = -g664638.toInt := gI_neg hz664654 bg664638' (by decide)
          have bz664654 : gB z664654 0 99 := ⟨by omega, by omega⟩
          refine G_kbald (f := dg_O) dr_cJ6_getChars_ba4f3_83 gr_ont (gB_inr (by omega) (by omega)) (G_nam fun z664655 hz664655 => ?_)
          have bz664655 : gB z664655 (-2147483648) 2147483647 := gB_any z664655
          refine Gp_bast 1 hmq664518 he664642 dr_cJ6_getChars_ba4f3_84 rfl (gB_inr (by omega) (by omega)) (fun F664656 e664657 n664658 => ?_)
          obtain ⟨f664659, hf664659⟩ : ∃ z, z = upd f664640 z664651.toNatClampNeg (vp_nar .byte z664655) := ⟨_, rfl⟩
          rw [← hf664659] at e664657
          have he664660 : F664656 q664518 = .inl (I .byte, n664522, .inl f664659) := e664657
          have hfr664661 : rFr [q664518] P664516 F664517 F664656 := rFr_put' List.mem_cons_self hfr664643 n664658
          have bf664659 : gF f664659 (-128) 127 := gF_upd hf664659 bf664640 gB_byte
          refine G_iload_n 1 dr_cJ6_getChars_ba4f3_85 rfl ?_
          refine G_bipush (-9) dr_cJ6_getChars_ba4f3_86 (by decide +kernel) ?_
          refine G_icmp_ge 104 dr_cJ6_getChars_ba4f3_88 (by decide +kernel) (fun hc664662 => ?_) (fun hc664662 => ?_)
          · have r664663 : (-9) ≤ g664638.toInt := gj_leL hc664662 (show Int32.toInt (-9) = (-9) by decide)
            have bg664638'' : gB g664638 (-9) 0 := ⟨by omega, by omega⟩
            refine G_iload 2 dr_cJ6_getChars_ba4f3_104 rfl ?_
            refine G_if_eq 118 dr_cJ6_getChars_ba4f3_106 (by decide +kernel) (fun _ => ?_) (fun hc => absurd hc (by decide))
            refine G_iload 0 dr_cJ6_getChars_ba4f3_118 rfl ?_
            exact G_iretA dr_cJ6_getChars_ba4f3_120 rfl (Nat.le_of_ble_eq_true rfl) (Nat.le_of_ble_eq_true rfl) ⟨F664656, z664651, f664659, rfl, rfl, hfr664661, he664660, (Nat.le_of_ble_eq_true rfl), (Nat.le_of_ble_eq_true rfl), bz664651, bf664659, (fun R c1 c2 c3 c4 => c1 z664529 g664638 g664639 f664640 z664651 z664654 z664655 f664659 r664528 hz664529 hx664649 ez664651 hz664654 hz664655 hf664659 r664663)⟩
          · have r664664 : g664638.toInt < (-9) := gj_nleL hc664662 (show Int32.toInt (-9) = (-9) by decide)
            have bg664638'' : gB g664638 (-99) (-10) := ⟨by omega, by omega⟩
            have x664665 : (2 : Int) ≤ (g664639.toInt - 0) := dgB_2 x664645 (by omega)
            refine G_aload_n 4 dr_cJ6_getChars_ba4f3_91 rfl ?_
            have bz664651' : gB z664651 1 16777215 := ⟨by omega, by omega⟩
            obtain ⟨z664666, hz664666⟩ : ∃ z : Int32, z = z664651 + Int32.ofInt (-1) := ⟨_, rfl⟩
            have ez664666 : z664666.toInt = z664651.toInt + (-1) := gI_inc hz664666 (by decide) bz664651' (by decide) (by decide)
            have bz664666 : gB z664666 0 16777214 := ⟨by omega, by omega⟩
            refine G_iinc (L' := [(5, .int z664666), (0, .int g664638), (6, .int 0), (1, .int p664520), (2, .ref q664518)]) z664666 0 dr_cJ6_getChars_ba4f3_92 rfl hz664666.symm (Nat.le_of_ble_eq_true rfl) rfl ?_
            refine G_iload 0 dr_cJ6_getChars_ba4f3_95 rfl ?_
            refine G_gets dr_cJ6_getChars_ba4f3_97 wr_8_120 gr_te (fun x664668 hx664667 => ?_)
            subst hx664667
            refine G_iload_n 1 dr_cJ6_getChars_ba4f3_100 rfl ?_
            refine G_ineg dr_cJ6_getChars_ba4f3_101 (G_nam fun z664669 hz664669 => ?_)
            have ez664669 : z664669.toInt = -g664638.toInt := gI_neg hz664669 bg664638'' (by decide)
            have bz664669 : gB z664669 10 99 := ⟨by omega, by omega⟩
            refine G_kbald (f := dg_T) dr_cJ6_getChars_ba4f3_102 gr_tet (gB_inr (by omega) (by omega)) (G_nam fun z664670 hz664670 => ?_)
            have bz664670 : gB z664670 (-2147483648) 2147483647 := gB_any z664670
            refine Gp_bast 1 hmq664518 he664660 dr_cJ6_getChars_ba4f3_103 rfl (gB_inr (by omega) (by omega)) (fun F664671 e664672 n664673 => ?_)
            obtain ⟨f664674, hf664674⟩ : ∃ z, z = upd f664659 z664666.toNatClampNeg (vp_nar .byte z664670) := ⟨_, rfl⟩
            rw [← hf664674] at e664672
            have he664675 : F664671 q664518 = .inl (I .byte, n664522, .inl f664674) := e664672
            have hfr664676 : rFr [q664518] P664516 F664517 F664671 := rFr_put' List.mem_cons_self hfr664661 n664673
            have bf664674 : gF f664674 (-128) 127 := gF_upd hf664674 bf664659 gB_byte
            refine G_iload 2 dr_cJ6_getChars_ba4f3_104 rfl ?_
            refine G_if_eq 118 dr_cJ6_getChars_ba4f3_106 (by decide +kernel) (fun _ => ?_) (fun hc => absurd hc (by decide))
            refine G_iload 0 dr_cJ6_getChars_ba4f3_118 rfl ?_
            exact G_iretA dr_cJ6_getChars_ba4f3_120 rfl (Nat.le_of_ble_eq_true rfl) (Nat.le_of_ble_eq_true rfl) ⟨F664671, z664666, f664674, rfl, rfl, hfr664676, he664675, (Nat.le_of_ble_eq_true rfl), (Nat.le_of_ble_eq_true rfl), (gB_w bz664666 (by decide) (by decide)), bf664674, (fun R c1 c2 c3 c4 => c2 z664529 g664638 g664639 f664640 z664651 z664654 z664655 f664659 z664666 z664669 z664670 f664674 r664528 hz664529 hx664649 ez664651 hz664654 hz664655 hf664659 r664664 ez664666 hz664669 hz664670 hf664674)⟩
        · have r664677 : g664638.toInt ≤ (-100) := gj_nltL hc664647 (show Int32.toInt (-100) = (-100) by decide)
          have bg664638' : gB g664638 (-2147483647) (-100) := ⟨by omega, by omega⟩
          have x664678 : (3 : Int) ≤ (g664639.toInt - 0) := dgB_3 x664645 (by omega)
          refine G_iload_n 0 dr_cJ6_getChars_ba4f3_28 rfl ?_
          refine G_bipush 100 dr_cJ6_getChars_ba4f3_29 (by decide +kernel) ?_
          refine G_idiv dr_cJ6_getChars_ba4f3_31 (by decide) (G_nam fun z664679 hz664679 => ?_)
          have ez664679 : z664679.toInt = -((-g664638.toInt) / 100) := gI_divn hz664679 bg664638' (by decide) (by decide) (by decide)
          have bz664679 : gB z664679 (-21474836) (-1) := ⟨by omega, by omega⟩
          refine G_istore_n (L' := [(3, .int z664679), (0, .int g664638), (6, .int 0), (5, .int g664639), (1, .int p664520), (2, .ref q664518)]) dr_cJ6_getChars_ba4f3_32 (Nat.le_of_ble_eq_true rfl) rfl ?_
          refine G_iload_n 0 dr_cJ6_getChars_ba4f3_33 rfl ?_
          refine G_bipush 100 dr_cJ6_getChars_ba4f3_34 (by decide +kernel) ?_
          refine G_imul dr_cJ6_getChars_ba4f3_36 (G_nam fun z664680 hz664680 => ?_)
          have ez664680 : z664680.toInt = z664679.toInt * 100 := gI_mulK hz664680 (by decide) (by omega) (by omega)
          have bz664680 : gB z664680 (-2147483600) (-100) := ⟨by omega, by omega⟩
          refine G_iload_n 1 dr_cJ6_getChars_ba4f3_37 rfl ?_
          refine G_isub dr_cJ6_getChars_ba4f3_38 (G_nam fun z664681 hz664681 => ?_)
          have ez664681 : z664681.toInt = z664680.toInt - g664638.toInt := by rw [gI_sub hz664681 bz664680 bg664638' (by decide) (by decide)]
          have bz664681 : gB z664681 (-2147483500) 2147483547 := gB_sub (gI_sub hz664681 bz664680 bg664638' (by decide) (by decide)) bz664680 bg664638' (by decide) (by decide)
          refine G_istore (L' := [(4, .int z664681), (3, .int z664679), (0, .int g664638), (6, .int 0), (5, .int g664639), (1, .int p664520), (2, .ref q664518)]) dr_cJ6_getChars_ba4f3_39 (Nat.le_of_ble_eq_true rfl) rfl ?_
          refine G_iload_n 1 dr_cJ6_getChars_ba4f3_41 rfl ?_
          refine G_istore_n (L' := [(0, .int z664679), (4, .int z664681), (3, .int z664679), (6, .int 0), (5, .int g664639), (1, .int p664520), (2, .ref q664518)]) dr_cJ6_getChars_ba4f3_42 (Nat.le_of_ble_eq_true rfl) rfl ?_
          refine G_aload_n 6 dr_cJ6_getChars_ba4f3_43 rfl ?_
          have bg664639' : gB g664639 2 16777216 := ⟨by omega, by omega⟩
          obtain ⟨z664682, hz664682⟩ : ∃ z : Int32, z = g664639 + Int32.ofInt (-1) := ⟨_, rfl⟩
          have ez664682 : z664682.toInt = g664639.toInt + (-1) := gI_inc hz664682 (by decide) bg664639' (by decide) (by decide)
          have bz664682 : gB z664682 1 16777215 := ⟨by omega, by omega⟩
          refine G_iinc (L' := [(5, .int z664682), (0, .int z664679), (4, .int z664681), (3, .int z664679), (6, .int 0), (1, .int p664520), (2, .ref q664518)]) z664682 4 dr_cJ6_getChars_ba4f3_44 rfl hz664682.symm (Nat.le_of_ble_eq_true rfl) rfl ?_
          refine G_iload 0 dr_cJ6_getChars_ba4f3_47 rfl ?_
          refine G_gets dr_cJ6_getChars_ba4f3_49 wr_8_118 gr_on (fun x664684 hx664683 => ?_)
          subst hx664683
          refine G_iload 2 dr_cJ6_getChars_ba4f3_52 rfl ?_
          refine G_kbald (f := dg_O) dr_cJ6_getChars_ba4f3_54 gr_ont (gB_inr (by omega) (by omega)) (G_nam fun z664685 hz664685 => ?_)
          have bz664685 : gB z664685 (-2147483648) 2147483647 := gB_any z664685
          refine Gp_bast 1 hmq664518 he664642 dr_cJ6_getChars_ba4f3_55 rfl (gB_inr (by omega) (by omega)) (fun F664686 e664687 n664688 => ?_)
          obtain ⟨f664689, hf664689⟩ : ∃ z, z = upd f664640 z664682.toNatClampNeg (vp_nar .byte z664685) := ⟨_, rfl⟩
          rw [← hf664689] at e664687
          have he664690 : F664686 q664518 = .inl (I .byte, n664522, .inl f664689) := e664687
          have hfr664691 : rFr [q664518] P664516 F664517 F664686 := rFr_put' List.mem_cons_self hfr664643 n664688
          have bf664689 : gF f664689 (-128) 127 := gF_upd hf664689 bf664640 gB_byte
          refine G_aload_n 6 dr_cJ6_getChars_ba4f3_56 rfl ?_
          obtain ⟨z664692, hz664692⟩ : ∃ z : Int32, z = z664682 + Int32.ofInt (-1) := ⟨_, rfl⟩
          have ez664692 : z664692.toInt = z664682.toInt + (-1) := gI_inc hz664692 (by decide) bz664682 (by decide) (by decide)
          have bz664692 : gB z664692 0 16777214 := ⟨by omega, by omega⟩
          refine G_iinc (L' := [(5, .int z664692), (0, .int z664679), (4, .int z664681), (3, .int z664679), (6, .int 0), (1, .int p664520), (2, .ref q664518)]) z664692 0 dr_cJ6_getChars_ba4f3_57 rfl hz664692.symm (Nat.le_of_ble_eq_true rfl) rfl ?_
          refine G_iload 0 dr_cJ6_getChars_ba4f3_60 rfl ?_
          refine G_gets dr_cJ6_getChars_ba4f3_62 wr_8_120 gr_te (fun x664694 hx664693 => ?_)
          subst hx664693
          refine G_iload 2 dr_cJ6_getChars_ba4f3_65 rfl ?_
          refine G_kbald (f := dg_T) dr_cJ6_getChars_ba4f3_67 gr_tet (gB_inr (by omega) (by omega)) (G_nam fun z664695 hz664695 => ?_)
          have bz664695 : gB z664695 (-2147483648) 2147483647 := gB_any z664695
          refine Gp_bast 1 hmq664518 he664690 dr_cJ6_getChars_ba4f3_68 rfl (gB_inr (by omega) (by omega)) (fun F664696 e664697 n664698 => ?_)
          obtain ⟨f664699, hf664699⟩ : ∃ z, z = upd f664689 z664692.toNatClampNeg (vp_nar .byte z664695) := ⟨_, rfl⟩
          rw [← hf664699] at e664697
          have he664700 : F664696 q664518 = .inl (I .byte, n664522, .inl f664699) := e664697
          have hfr664701 : rFr [q664518] P664516 F664517 F664696 := rFr_put' List.mem_cons_self hfr664691 n664698
          have bf664699 : gF f664699 (-128) 127 := gF_upd hf664699 bf664689 gB_byte
          refine G_goto 22 dr_cJ6_getChars_ba4f3_69 (by decide +kernel) ?_
          refine G_lv (L' := [(0, .int z664679), (6, .int 0), (5, .int z664692), (1, .int p664520), (2, .ref q664518)]) [1, 4, 0, 5, 6] rfl ?_
          exact ih22_664646 F664696 z664679 z664692 f664699 (gB_w bz664679 (by decide) (by decide)) (gB_w bz664692 (by decide) (by decide)) bf664699 hfr664701 he664700 (by have qa0 : Int32.toInt 0 = 0 := (by decide); omega) (by have q10 : Int32.toInt 10 = 10 := (by decide); have q11 : Int32.toInt 11 = 11 := (by decide); first | exact dgB_up (dgS_ip x664524 (by omega) (by omega)) (by omega) (by omega) | exact dgB_up (dgS_in x664524 (by omega)) (by omega) (by omega) | exact dgB_up x664645 (by omega) (by omega) | exact dgB_up (dgB_st x664645 (by omega) (by omega) (by omega)) (by omega) (by omega)) (by have qa0 : Int32.toInt 0 = 0 := (by decide); omega) (fun k e1 e2 e3 ht => kt22_664646 k e1 e2 e3 (fun R c1 c2 => c2 g664638 g664639 f664640 z664679 z664680 z664681 z664682 z664685 f664689 z664692 z664695 f664699 k e1 e2 e3 bg664638 bg664639 r664677 ez664679 ez664680 ez664681 ez664682 hz664685 hf664689 ez664692 hz664695 hf664699 (ht R c1 c2))) (by have qa0 : Int32.toInt 0 = 0 := (by decide); omega)
    exact hlp22_664646 ((-z664529.toInt).toNat + 1) F664517 z664529 p664520 f664521 bz664529 bp664520 bf664521 (rFr_v (rFr_rf (W := []) (P := P664516) (F := F664517)) (fun b hn => nm_n)) heq664518 (by have qa0 : Int32.toInt 0 = 0 := (by decide); omega) (by have q10 : Int32.toInt 10 = 10 := (by decide); have q11 : Int32.toInt 11 = 11 := (by decide); first | exact dgB_up (dgS_ip x664524 (by omega) (by omega)) (by omega) (by omega) | exact dgB_up (dgS_in x664524 (by omega)) (by omega) (by omega)) (by have qa0 : Int32.toInt 0 = 0 := (by decide); omega) (fun k e1 e2 e3 ht => ht) (Nat.lt_succ_self _)
  · have r664702 : p664519.toInt < 0 := gj_nleL hc664527 (show Int32.toInt 0 = 0 by decide)
    have bp664519' : gB p664519 (-2147483648) (-1) := ⟨by omega, by omega⟩
    refine G_iconst 1 dr_cJ6_getChars_ba4f3_7 (by decide +kernel) ?_
    refine G_goto 12 dr_cJ6_getChars_ba4f3_8 (by decide +kernel) ?_
    refine G_istore (L' := [(6, .int 1), (5, .int p664520), (0, .int p664519), (1, .int p664520), (2, .ref q664518)]) dr_cJ6_getChars_ba4f3_12 (Nat.le_of_ble_eq_true rfl) rfl ?_
    refine G_iload 0 dr_cJ6_getChars_ba4f3_14 rfl ?_
    refine G_if_ne 22 dr_cJ6_getChars_ba4f3_16 (by decide +kernel) (fun _ => ?_) (fun hc => absurd hc (by decide))
    have hlp22_664847 : ∀ (n22_664847 : Nat) (F664842 : Nat → va_E) (g664839 : Int32) (g664840 : Int32) (f664841 : Nat → Int32), gB g664839 0 16777216 → gB g664840 (-2147483648) (-1) → gF f664841 (-128) 127 → rFr [q664518] P664516 F664517 F664842 → F664842 q664518 = .inl (I .byte, n664522, .inl f664841) → g664840.toInt ≤ 0 → dgB g664840.toInt (g664839.toInt - 1) → g664839.toInt ≤ p664520.toInt → (∀ (k : Nat) (e1 : Int32) (e2 : Int32) (e3 : Nat → Int32), tl_RInteger_getChars_22_2 g664839 g664840 f664841 k e1 e2 e3 → tl_RInteger_getChars_22_2 p664520 p664519 f664521 k e1 e2 e3) → (-g664840.toInt).toNat < n22_664847 → G (gV D I) l (gRm 0 0 0 0) (gMA (gV D I) (pp_664526_Integer_getChars D I P664516 F664517 q664518 p664519 p664520 f664521 n664522) gNA 0 0) ky_664526_Integer_getChars 22 [(6, .int 1), (5, .int g664839), (0, .int g664840), (1, .int p664520), (2, .ref q664518)] [] (va_pl P664516 F664842) 0 0 := by
      intro n22_664847
      induction n22_664847 with
      | zero => intro F664842 g664839 g664840 f664841 bg664839 bg664840 bf664841 hfr664844 he664843 x664845 x664846 x664847 kt22_664847 hm22_664847; exact absurd hm22_664847 (Nat.not_lt_zero _)
      | succ n22_664847 ih22_664847 =>
        intro F664842 g664839 g664840 f664841 bg664839 bg664840 bf664841 hfr664844 he664843 x664845 x664846 x664847 kt22_664847 hm22_664847
        refine G_iload_n 2 dr_cJ6_getChars_ba4f3_22 rfl ?_
        refine G_bipush (-100) dr_cJ6_getChars_ba4f3_23 (by decide +kernel) ?_
        refine G_icmp_gt 72 dr_cJ6_getChars_ba4f3_25 (by decide +kernel) (fun hc664848 => ?_) (fun hc664848 => ?_)
        · have r664849 : (-100) < g664840.toInt := gj_ltL hc664848 (show Int32.toInt (-100) = (-100) by decide)
          have bg664840' : gB g664840 (-99) (-1) := ⟨by omega, by omega⟩
          have hx664850 : tl_RInteger_getChars_22_2 p664520 p664519 f664521 72 g664839 g664840 f664841 := kt22_664847 72 g664839 g664840 f664841 (fun R c1 c2 => c1 g664839 g664840 f664841 bg664839 bg664840 r664849)
          have x664851 : (1 : Int) ≤ (g664839.toInt - 1) := dgB_1 x664846
          refine G_aload_n 4 dr_cJ6_getChars_ba4f3_72 rfl ?_
          have bg664839' : gB g664839 1 16777216 := ⟨by omega, by omega⟩
          obtain ⟨z664852, hz664852⟩ : ∃ z : Int32, z = g664839 + Int32.ofInt (-1) := ⟨_, rfl⟩
          have ez664852 : z664852.toInt = g664839.toInt + (-1) := gI_inc hz664852 (by decide) bg664839' (by decide) (by decide)
          have bz664852 : gB z664852 0 16777215 := ⟨by omega, by omega⟩
          refine G_iinc (L' := [(5, .int z664852), (6, .int 1), (0, .int g664840), (1, .int p664520), (2, .ref q664518)]) z664852 1 dr_cJ6_getChars_ba4f3_73 rfl hz664852.symm (Nat.le_of_ble_eq_true rfl) rfl ?_
          refine G_iload 0 dr_cJ6_getChars_ba4f3_76 rfl ?_
          refine G_gets dr_cJ6_getChars_ba4f3_78 wr_8_118 gr_on (fun x664854 hx664853 => ?_)
          subst hx664853
          refine G_iload_n 2 dr_cJ6_getChars_ba4f3_81 rfl ?_
          refine G_ineg dr_cJ6_getChars_ba4f3_82 (G_nam fun z664855 hz664855 => ?_)
          have ez664855 : z664855.toInt = -g664840.toInt := gI_neg hz664855 bg664840' (by decide)
          have bz664855 : gB z664855 1 99 := ⟨by omega, by omega⟩
          refine G_kbald (f := dg_O) dr_cJ6_getChars_ba4f3_83 gr_ont (gB_inr (by omega) (by omega)) (G_nam fun z664856 hz664856 => ?_)
          have bz664856 : gB z664856 (-2147483648) 2147483647 := gB_any z664856
          refine Gp_bast 1 hmq664518 he664843 dr_cJ6_getChars_ba4f3_84 rfl (gB_inr (by omega) (by omega)) (fun F664857 e664858 n664859 => ?_)
          obtain ⟨f664860, hf664860⟩ : ∃ z, z = upd f664841 z664852.toNatClampNeg (vp_nar .byte z664856) := ⟨_, rfl⟩
          rw [← hf664860] at e664858
          have he664861 : F664857 q664518 = .inl (I .byte, n664522, .inl f664860) := e664858
          have hfr664862 : rFr [q664518] P664516 F664517 F664857 := rFr_put' List.mem_cons_self hfr664844 n664859
          have bf664860 : gF f664860 (-128) 127 := gF_upd hf664860 bf664841 gB_byte
          refine G_iload_n 2 dr_cJ6_getChars_ba4f3_85 rfl ?_
          refine G_bipush (-9) dr_cJ6_getChars_ba4f3_86 (by decide +kernel) ?_
          refine G_icmp_ge 104 dr_cJ6_getChars_ba4f3_88 (by decide +kernel) (fun hc664863 => ?_) (fun hc664863 => ?_)
          · have r664864 : (-9) ≤ g664840.toInt := gj_leL hc664863 (show Int32.toInt (-9) = (-9) by decide)
            have bg664840'' : gB g664840 (-9) (-1) := ⟨by omega, by omega⟩
            refine G_iload 1 dr_cJ6_getChars_ba4f3_104 rfl ?_
            refine G_if_eq 118 dr_cJ6_getChars_ba4f3_106 (by decide +kernel) (fun hc => absurd hc (by decide)) (fun _ => ?_)
            refine G_aload_n 4 dr_cJ6_getChars_ba4f3_109 rfl ?_
            have bz664852' : gB z664852 1 16777215 := ⟨by omega, by omega⟩
            obtain ⟨z664865, hz664865⟩ : ∃ z : Int32, z = z664852 + Int32.ofInt (-1) := ⟨_, rfl⟩
            have ez664865 : z664865.toInt = z664852.toInt + (-1) := gI_inc hz664865 (by decide) bz664852' (by decide) (by decide)
            have bz664865 : gB z664865 0 16777214 := ⟨by omega, by omega⟩
            refine G_iinc (L' := [(5, .int z664865), (6, .int 1), (0, .int g664840), (1, .int p664520), (2, .ref q664518)]) z664865 0 dr_cJ6_getChars_ba4f3_110 rfl hz664865.symm (Nat.le_of_ble_eq_true rfl) rfl ?_
            refine G_iload 0 dr_cJ6_getChars_ba4f3_113 rfl ?_
            refine G_bipush 45 dr_cJ6_getChars_ba4f3_115 (by decide +kernel) ?_
            refine Gp_bast 1 hmq664518 he664861 dr_cJ6_getChars_ba4f3_117 rfl (gB_inr (by omega) (by omega)) (fun F664866 e664867 n664868 => ?_)
            obtain ⟨f664869, hf664869⟩ : ∃ z, z = upd f664860 z664865.toNatClampNeg (vp_nar .byte 45) := ⟨_, rfl⟩
            rw [← hf664869] at e664867
            have he664870 : F664866 q664518 = .inl (I .byte, n664522, .inl f664869) := e664867
            have hfr664871 : rFr [q664518] P664516 F664517 F664866 := rFr_put' List.mem_cons_self hfr664862 n664868
            have bf664869 : gF f664869 (-128) 127 := gF_upd hf664869 bf664860 gB_byte
            refine G_iload 0 dr_cJ6_getChars_ba4f3_118 rfl ?_
            exact G_iretA dr_cJ6_getChars_ba4f3_120 rfl (Nat.le_of_ble_eq_true rfl) (Nat.le_of_ble_eq_true rfl) ⟨F664866, z664865, f664869, rfl, rfl, hfr664871, he664870, (Nat.le_of_ble_eq_true rfl), (Nat.le_of_ble_eq_true rfl), (gB_w bz664865 (by decide) (by decide)), bf664869, (fun R c1 c2 c3 c4 => c3 g664839 g664840 f664841 z664852 z664855 z664856 f664860 z664865 f664869 r664702 hx664850 ez664852 hz664855 hz664856 hf664860 r664864 ez664865 hf664869)⟩
          · have r664872 : g664840.toInt < (-9) := gj_nleL hc664863 (show Int32.toInt (-9) = (-9) by decide)
            have bg664840'' : gB g664840 (-99) (-10) := ⟨by omega, by omega⟩
            have x664873 : (2 : Int) ≤ (g664839.toInt - 1) := dgB_2 x664846 (by omega)
            refine G_aload_n 4 dr_cJ6_getChars_ba4f3_91 rfl ?_
            have bz664852' : gB z664852 1 16777215 := ⟨by omega, by omega⟩
            obtain ⟨z664874, hz664874⟩ : ∃ z : Int32, z = z664852 + Int32.ofInt (-1) := ⟨_, rfl⟩
            have ez664874 : z664874.toInt = z664852.toInt + (-1) := gI_inc hz664874 (by decide) bz664852' (by decide) (by decide)
            have bz664874 : gB z664874 0 16777214 := ⟨by omega, by omega⟩
            refine G_iinc (L' := [(5, .int z664874), (6, .int 1), (0, .int g664840), (1, .int p664520), (2, .ref q664518)]) z664874 0 dr_cJ6_getChars_ba4f3_92 rfl hz664874.symm (Nat.le_of_ble_eq_true rfl) rfl ?_
            refine G_iload 0 dr_cJ6_getChars_ba4f3_95 rfl ?_
            refine G_gets dr_cJ6_getChars_ba4f3_97 wr_8_120 gr_te (fun x664876 hx664875 => ?_)
            subst hx664875
            refine G_iload_n 2 dr_cJ6_getChars_ba4f3_100 rfl ?_
            refine G_ineg dr_cJ6_getChars_ba4f3_101 (G_nam fun z664877 hz664877 => ?_)
            have ez664877 : z664877.toInt = -g664840.toInt := gI_neg hz664877 bg664840'' (by decide)
            have bz664877 : gB z664877 10 99 := ⟨by omega, by omega⟩
            refine G_kbald (f := dg_T) dr_cJ6_getChars_ba4f3_102 gr_tet (gB_inr (by omega) (by omega)) (G_nam fun z664878 hz664878 => ?_)
            have bz664878 : gB z664878 (-2147483648) 2147483647 := gB_any z664878
            refine Gp_bast 1 hmq664518 he664861 dr_cJ6_getChars_ba4f3_103 rfl (gB_inr (by omega) (by omega)) (fun F664879 e664880 n664881 => ?_)
            obtain ⟨f664882, hf664882⟩ : ∃ z, z = upd f664860 z664874.toNatClampNeg (vp_nar .byte z664878) := ⟨_, rfl⟩
            rw [← hf664882] at e664880
            have he664883 : F664879 q664518 = .inl (I .byte, n664522, .inl f664882) := e664880
            have hfr664884 : rFr [q664518] P664516 F664517 F664879 := rFr_put' List.mem_cons_self hfr664862 n664881
            have bf664882 : gF f664882 (-128) 127 := gF_upd hf664882 bf664860 gB_byte
            refine G_iload 1 dr_cJ6_getChars_ba4f3_104 rfl ?_
            refine G_if_eq 118 dr_cJ6_getChars_ba4f3_106 (by decide +kernel) (fun hc => absurd hc (by decide)) (fun _ => ?_)
            refine G_aload_n 4 dr_cJ6_getChars_ba4f3_109 rfl ?_
            have bz664874' : gB z664874 1 16777214 := ⟨by omega, by omega⟩
            obtain ⟨z664885, hz664885⟩ : ∃ z : Int32, z = z664874 + Int32.ofInt (-1) := ⟨_, rfl⟩
            have ez664885 : z664885.toInt = z664874.toInt + (-1) := gI_inc hz664885 (by decide) bz664874' (by decide) (by decide)
            have bz664885 : gB z664885 0 16777213 := ⟨by omega, by omega⟩
            refine G_iinc (L' := [(5, .int z664885), (6, .int 1), (0, .int g664840), (1, .int p664520), (2, .ref q664518)]) z664885 0 dr_cJ6_getChars_ba4f3_110 rfl hz664885.symm (Nat.le_of_ble_eq_true rfl) rfl ?_
            refine G_iload 0 dr_cJ6_getChars_ba4f3_113 rfl ?_
            refine G_bipush 45 dr_cJ6_getChars_ba4f3_115 (by decide +kernel) ?_
            refine Gp_bast 1 hmq664518 he664883 dr_cJ6_getChars_ba4f3_117 rfl (gB_inr (by omega) (by omega)) (fun F664886 e664887 n664888 => ?_)
            obtain ⟨f664889, hf664889⟩ : ∃ z, z = upd f664882 z664885.toNatClampNeg (vp_nar .byte 45) := ⟨_, rfl⟩
            rw [← hf664889] at e664887
            have he664890 : F664886 q664518 = .inl (I .byte, n664522, .inl f664889) := e664887
            have hfr664891 : rFr [q664518] P664516 F664517 F664886 := rFr_put' List.mem_cons_self hfr664884 n664888
            have bf664889 : gF f664889 (-128) 127 := gF_upd hf664889 bf664882 gB_byte
            refine G_iload 0 dr_cJ6_getChars_ba4f3_118 rfl ?_
            exact G_iretA dr_cJ6_getChars_ba4f3_120 rfl (Nat.le_of_ble_eq_true rfl) (Nat.le_of_ble_eq_true rfl) ⟨F664886, z664885, f664889, rfl, rfl, hfr664891, he664890, (Nat.le_of_ble_eq_true rfl), (Nat.le_of_ble_eq_true rfl), (gB_w bz664885 (by decide) (by decide)), bf664889, (fun R c1 c2 c3 c4 => c4 g664839 g664840 f664841 z664852 z664855 z664856 f664860 z664874 z664877 z664878 f664882 z664885 f664889 r664702 hx664850 ez664852 hz664855 hz664856 hf664860 r664872 ez664874 hz664877 hz664878 hf664882 ez664885 hf664889)⟩
        · have r664892 : g664840.toInt ≤ (-100) := gj_nltL hc664848 (show Int32.toInt (-100) = (-100) by decide)
          have bg664840' : gB g664840 (-2147483648) (-100) := ⟨by omega, by omega⟩
          have x664893 : (3 : Int) ≤ (g664839.toInt - 1) := dgB_3 x664846 (by omega)
          refine G_iload_n 2 dr_cJ6_getChars_ba4f3_28 rfl ?_
          refine G_bipush 100 dr_cJ6_getChars_ba4f3_29 (by decide +kernel) ?_
          refine G_idiv dr_cJ6_getChars_ba4f3_31 (by decide) (G_nam fun z664894 hz664894 => ?_)
          have ez664894 : z664894.toInt = -((-g664840.toInt) / 100) := gI_divn hz664894 bg664840' (by decide) (by decide) (by decide)
          have bz664894 : gB z664894 (-21474836) (-1) := ⟨by omega, by omega⟩
          refine G_istore_n (L' := [(3, .int z664894), (6, .int 1), (5, .int g664839), (0, .int g664840), (1, .int p664520), (2, .ref q664518)]) dr_cJ6_getChars_ba4f3_32 (Nat.le_of_ble_eq_true rfl) rfl ?_
          refine G_iload_n 0 dr_cJ6_getChars_ba4f3_33 rfl ?_
          refine G_bipush 100 dr_cJ6_getChars_ba4f3_34 (by decide +kernel) ?_
          refine G_imul dr_cJ6_getChars_ba4f3_36 (G_nam fun z664895 hz664895 => ?_)
          have ez664895 : z664895.toInt = z664894.toInt * 100 := gI_mulK hz664895 (by decide) (by omega) (by omega)
          have bz664895 : gB z664895 (-2147483600) (-100) := ⟨by omega, by omega⟩
          refine G_iload_n 3 dr_cJ6_getChars_ba4f3_37 rfl ?_
          refine G_isub dr_cJ6_getChars_ba4f3_38 (G_nam fun z664896 hz664896 => ?_)
          have ez664896 : z664896.toInt = z664895.toInt - g664840.toInt := by rw [gI_sub hz664896 bz664895 bg664840' (by decide) (by decide)]
          have bz664896 : gB z664896 (-2147483500) 2147483548 := gB_sub (gI_sub hz664896 bz664895 bg664840' (by decide) (by decide)) bz664895 bg664840' (by decide) (by decide)
          refine G_istore (L' := [(4, .int z664896), (3, .int z664894), (6, .int 1), (5, .int g664839), (0, .int g664840), (1, .int p664520), (2, .ref q664518)]) dr_cJ6_getChars_ba4f3_39 (Nat.le_of_ble_eq_true rfl) rfl ?_
          refine G_iload_n 1 dr_cJ6_getChars_ba4f3_41 rfl ?_
          refine G_istore_n (L' := [(0, .int z664894), (4, .int z664896), (3, .int z664894), (6, .int 1), (5, .int g664839), (1, .int p664520), (2, .ref q664518)]) dr_cJ6_getChars_ba4f3_42 (Nat.le_of_ble_eq_true rfl) rfl ?_
          refine G_aload_n 6 dr_cJ6_getChars_ba4f3_43 rfl ?_
          have bg664839' : gB g664839 2 16777216 := ⟨by omega, by omega⟩
          obtain ⟨z664897, hz664897⟩ : ∃ z : Int32, z = g664839 + Int32.ofInt (-1) := ⟨_, rfl⟩
          have ez664897 : z664897.toInt = g664839.toInt + (-1) := gI_inc hz664897 (by decide) bg664839' (by decide) (by decide)
          have bz664897 : gB z664897 1 16777215 := ⟨by omega, by omega⟩
          refine G_iinc (L' := [(5, .int z664897), (0, .int z664894), (4, .int z664896), (3, .int z664894), (6, .int 1), (1, .int p664520), (2, .ref q664518)]) z664897 4 dr_cJ6_getChars_ba4f3_44 rfl hz664897.symm (Nat.le_of_ble_eq_true rfl) rfl ?_
          refine G_iload 0 dr_cJ6_getChars_ba4f3_47 rfl ?_
          refine G_gets dr_cJ6_getChars_ba4f3_49 wr_8_118 gr_on (fun x664899 hx664898 => ?_)
          subst hx664898
          refine G_iload 2 dr_cJ6_getChars_ba4f3_52 rfl ?_
          refine G_kbald (f := dg_O) dr_cJ6_getChars_ba4f3_54 gr_ont (gB_inr (by omega) (by omega)) (G_nam fun z664900 hz664900 => ?_)
          have bz664900 : gB z664900 (-2147483648) 2147483647 := gB_any z664900
          refine Gp_bast 1 hmq664518 he664843 dr_cJ6_getChars_ba4f3_55 rfl (gB_inr (by omega) (by omega)) (fun F664901 e664902 n664903 => ?_)
          obtain ⟨f664904, hf664904⟩ : ∃ z, z = upd f664841 z664897.toNatClampNeg (vp_nar .byte z664900) := ⟨_, rfl⟩
          rw [← hf664904] at e664902
          have he664905 : F664901 q664518 = .inl (I .byte, n664522, .inl f664904) := e664902
          have hfr664906 : rFr [q664518] P664516 F664517 F664901 := rFr_put' List.mem_cons_self hfr664844 n664903
          have bf664904 : gF f664904 (-128) 127 := gF_upd hf664904 bf664841 gB_byte
          refine G_aload_n 6 dr_cJ6_getChars_ba4f3_56 rfl ?_
          obtain ⟨z664907, hz664907⟩ : ∃ z : Int32, z = z664897 + Int32.ofInt (-1) := ⟨_, rfl⟩
          have ez664907 : z664907.toInt = z664897.toInt + (-1) := gI_inc hz664907 (by decide) bz664897 (by decide) (by decide)
          have bz664907 : gB z664907 0 16777214 := ⟨by omega, by omega⟩
          refine G_iinc (L' := [(5, .int z664907), (0, .int z664894), (4, .int z664896), (3, .int z664894), (6, .int 1), (1, .int p664520), (2, .ref q664518)]) z664907 0 dr_cJ6_getChars_ba4f3_57 rfl hz664907.symm (Nat.le_of_ble_eq_true rfl) rfl ?_
          refine G_iload 0 dr_cJ6_getChars_ba4f3_60 rfl ?_
          refine G_gets dr_cJ6_getChars_ba4f3_62 wr_8_120 gr_te (fun x664909 hx664908 => ?_)
          subst hx664908
          refine G_iload 2 dr_cJ6_getChars_ba4f3_65 rfl ?_
          refine G_kbald (f := dg_T) dr_cJ6_getChars_ba4f3_67 gr_tet (gB_inr (by omega) (by omega)) (G_nam fun z664910 hz664910 => ?_)
          have bz664910 : gB z664910 (-2147483648) 2147483647 := gB_any z664910
          refine Gp_bast 1 hmq664518 he664905 dr_cJ6_getChars_ba4f3_68 rfl (gB_inr (by omega) (by omega)) (fun F664911 e664912 n664913 => ?_)
          obtain ⟨f664914, hf664914⟩ : ∃ z, z = upd f664904 z664907.toNatClampNeg (vp_nar .byte z664910) := ⟨_, rfl⟩
          rw [← hf664914] at e664912
          have he664915 : F664911 q664518 = .inl (I .byte, n664522, .inl f664914) := e664912
          have hfr664916 : rFr [q664518] P664516 F664517 F664911 := rFr_put' List.mem_cons_self hfr664906 n664913
          have bf664914 : gF f664914 (-128) 127 := gF_upd hf664914 bf664904 gB_byte
          refine G_goto 22 dr_cJ6_getChars_ba4f3_69 (by decide +kernel) ?_
          refine G_lv (L' := [(6, .int 1), (5, .int z664907), (0, .int z664894), (1, .int p664520), (2, .ref q664518)]) [4, 0, 1, 5, 6] rfl ?_
          exact ih22_664847 F664911 z664907 z664894 f664914 (gB_w bz664907 (by decide) (by decide)) (gB_w bz664894 (by decide) (by decide)) bf664914 hfr664916 he664915 (by have qa0 : Int32.toInt 1 = 1 := (by decide); omega) (by have q10 : Int32.toInt 10 = 10 := (by decide); have q11 : Int32.toInt 11 = 11 := (by decide); first | exact dgB_up (dgS_ip x664524 (by omega) (by omega)) (by omega) (by omega) | exact dgB_up (dgS_in x664524 (by omega)) (by omega) (by omega) | exact dgB_up x664846 (by omega) (by omega) | exact dgB_up (dgB_st x664846 (by omega) (by omega) (by omega)) (by omega) (by omega)) (by have qa0 : Int32.toInt 1 = 1 := (by decide); omega) (fun k e1 e2 e3 ht => kt22_664847 k e1 e2 e3 (fun R c1 c2 => c2 g664839 g664840 f664841 z664894 z664895 z664896 z664897 z664900 f664904 z664907 z664910 f664914 k e1 e2 e3 bg664839 bg664840 r664892 ez664894 ez664895 ez664896 ez664897 hz664900 hf664904 ez664907 hz664910 hf664914 (ht R c1 c2))) (by have qa0 : Int32.toInt 1 = 1 := (by decide); omega)
    exact hlp22_664847 ((-p664519.toInt).toNat + 1) F664517 p664520 p664519 f664521 bp664520 bp664519' bf664521 (rFr_v (rFr_rf (W := []) (P := P664516) (F := F664517)) (fun b hn => nm_n)) heq664518 (by have qa0 : Int32.toInt 1 = 1 := (by decide); omega) (by have q10 : Int32.toInt 10 = 10 := (by decide); have q11 : Int32.toInt 11 = 11 := (by decide); first | exact dgB_up (dgS_ip x664524 (by omega) (by omega)) (by omega) (by omega) | exact dgB_up (dgS_in x664524 (by omega)) (by omega) (by omega)) (by have qa0 : Int32.toInt 1 = 1 := (by decide); omega) (fun k e1 e2 e3 ht => ht) (Nat.lt_succ_self _)
/- tr_RAbstractStringBuilder_append7: a.0...count, a.0.value.#, a.0.value.[] -/
def tr_RAbstractStringBuilder_append7 (a1 : Int32) (a0_count : Int32) (a0_value_v : Nat → Int32) (a0_value_n : Nat) (o1 : Int32) (o2 : Nat) (o3 : Nat → Int32) : Prop := ∀ R : (Int32) → (Nat) → (Nat → Int32) → Prop,
  (∀ (x1 : Int32) (x2 : Int32) (x3 : Nat) (x4 : Nat → Int32) (x5 : Int32) (x6 : Nat → Int32), gB x1 1 11 → tr_RInteger_stringSize a1 x1 → x2.toInt = a0_count.toInt + x1.toInt → tr_RAbstractStringBuilder_ensureCapacityInternal2 x2 a0_value_v a0_value_n x3 x4 → gB x5 0 16777215 → tr_RInteger_getChars a1 x2 x4 x5 x6 → R x2 x3 x6) →
  R o1 o2 o3
abbrev ky_664339_AbstractStringBuilder_append : gKey := (cJ5_append_c97b9, 4, "java/lang/AbstractStringBuilder", (some (FieldType.object "java/lang/AbstractStringBuilder")), [], "append", fun _ _ => True)
def pp_664339_AbstractStringBuilder_append (D : va_G) (I : FieldType → ClassId) (P664327 : List Nat) (F664328 : Nat → va_E) (q664329 : Nat) (q664330 : Nat) (p664331 : Int32) (p664332 : Int32) (p664333 : Int32) (f664334 : Nat → Int32) (n664335 : Nat) : Option Value → va_W → Nat → Nat → Prop := fun r w dc ds => ∃ (P664945 : List Nat) (F664946 : Nat → va_E) (o664941 : Int32) (q664942 : Nat) (n664943 : Nat) (f664944 : Nat → Int32), r = some (.ref q664329) ∧ w = va_pl P664945 F664946 ∧ rSub P664327 P664945 ∧ rFr [q664329, q664330] P664327 F664328 F664946 ∧ F664946 q664329 = .inr (1, [.ref q664942, .int 0, .int p664332, .int o664941]) ∧ F664946 q664942 = .inl (I .byte, n664943, .inl f664944) ∧ q664942 ∈ P664945 ∧ (q664942 = q664330 ∨ q664942 ∉ P664327) ∧ dc ≤ 1 ∧ ds ≤ 2 * (n664943 - n664335) ∧ gB o664941 1 16777216 ∧ gF f664944 (-128) 127 ∧ p664333.toInt ≤ o664941.toInt ∧ o664941.toInt ≤ p664333.toInt + 11 ∧ o664941.toInt ≤ (n664943 : Int) ∧ (n664335 : Int) ≤ (n664943 : Int) ∧ ((n664943 : Int) ≤ 2 * (n664335 : Int) + 2 ∨ (n664943 : Int) ≤ p664333.toInt + 11) ∧ tr_RAbstractStringBuilder_append7 p664331 p664333 f664334 n664335 o664941 n664943 f664944
set_option maxRecDepth 100000 in
set_option maxHeartbeats 4000000 in
theorem cp_664339_AbstractStringBuilder_append (l : Launch) (hl0 : l.stackTraces = false) (D : va_G) (I : FieldType → ClassId) (P664327 : List Nat) (F664328 : Nat → va_E) (q664329 : Nat) (q664330 : Nat) (p664331 : Int32) (p664332 : Int32) (p664333 : Int32) (f664334 : Nat → Int32) (n664335 : Nat) (hmq664329 : q664329 ∈ P664327) (hmq664330 : q664330 ∈ P664327) (heq664329 : F664328 q664329 = .inr (1, [.ref q664330, .int 0, .int p664332, .int p664333])) (heq664330 : F664328 q664330 = .inl (I .byte, n664335, .inl f664334)) (bp664332 : gB p664332 0 1) (bp664333 : gB p664333 0 16777216) (bf664334 : gF f664334 (-128) 127) (x664336 : (n664335 : Int) ≤ 8388608 - 100000) (x664337 : p664333.toInt ≤ (n664335 : Int)) (x664338 : ((n664335 : Int) ≤ 16777216)) : CtA (gV D I) l yJ5_append_c97b9 cJ5_append_c97b9 4 (some (FieldType.object "java/lang/AbstractStringBuilder")) 4 84 1 (4 * n664335 + 64) [.ref q664329, .int p664331] (va_pl P664327 F664328) (pp_664339_AbstractStringBuilder_append D I P664327 F664328 q664329 q664330 p664331 p664332 p664333 f664334 n664335) gNA := by
  refine CtA_ofF hl0 (by decide +kernel) (Nat.le_of_ble_eq_true rfl) ?_
  have bp664331 := gB_any p664331
  refine G_aload_n 0 dr_cJ5_append_c97b9_0 rfl ?_
  refine Gp_get 3 hmq664329 heq664329 dr_cJ5_append_c97b9_1 (gk_J4 D I) (Nat.le_of_ble_eq_true rfl) wr_7_64 rfl ?_
  refine G_istore_n (L' := [(2, .int p664333), (0, .ref q664329), (1, .int p664331)]) dr_cJ5_append_c97b9_4 (Nat.le_of_ble_eq_true rfl) rfl ?_
  refine G_iload_n 0 dr_cJ5_append_c97b9_5 rfl ?_
  refine G_iload_n 2 dr_cJ5_append_c97b9_6 rfl ?_
  refine Gw_callS (As := [.int p664331]) (gV_ok D I) (cp_664343_Integer_stringSize l hl0 D I P664327 F664328 p664331 ) dr_cJ5_append_c97b9_7 ⟨wr_8_112, wr_1_35, wr_8_114, by decide, rfl, (Nat.le_of_ble_eq_true rfl), (Nat.le_of_ble_eq_true rfl)⟩ wr_8_113 (show 0 + 0 ≤ 1 by first | omega | decide) (show 0 + 0 ≤ (4 * n664335 + 64) by first | omega | decide) (Nat.le_of_ble_eq_true rfl) (fun r664478 w664479 dc664475 ds664476 hp664477 => ?_) (fun _ _ _ _ _ z => z.elim)
  obtain ⟨o664480, rfl, rfl, hdc, hds, bo664480, x664481, ht664482⟩ := hp664477
  change G _ _ _ _ _ _ _ (.int o664480 :: _) _ _ _
  refine G_widen (cs' := 0) (sl' := 0) (by omega) (by omega) ?_
  refine G_iadd dr_cJ5_append_c97b9_10 (G_nam fun z664483 hz664483 => ?_)
  have ez664483 : z664483.toInt = p664333.toInt + o664480.toInt := by rw [gI_add hz664483 bp664333 bo664480 (by decide) (by decide)]
  have bz664483 : gB z664483 1 16777227 := gB_add (gI_add hz664483 bp664333 bo664480 (by decide) (by decide)) bp664333 bo664480 (by decide) (by decide)
  refine G_istore_n (L' := [(3, .int z664483), (2, .int p664333), (0, .ref q664329), (1, .int p664331)]) dr_cJ5_append_c97b9_11 (Nat.le_of_ble_eq_true rfl) rfl ?_
  refine G_aload_n 2 dr_cJ5_append_c97b9_12 rfl ?_
  refine G_iload_n 0 dr_cJ5_append_c97b9_13 rfl ?_
  refine Gw_callVB (As := [.int z664483]) (gV_ok D I) (cp_655588_AbstractStringBuilder_ensureCapacityInternal l hl0 D I P664327 F664328 q664329 q664330 z664483 p664332 p664333 f664334 n664335 hmq664329 hmq664330 heq664329 heq664330 ⟨by omega, by omega⟩ bp664332 bp664333 bf664334 (by have qa0 : Int32.toInt 0 = 0 := (by decide); omega) (by have qa0 : Int32.toInt 0 = 0 := (by decide); omega)) dr_cJ5_append_c97b9_14 ⟨wr_8_4, wr_1_19, wr_8_7, by decide, rfl, (Nat.le_of_ble_eq_true rfl), (Nat.le_of_ble_eq_true rfl)⟩ wr_8_6 wr_s_0 hmq664329 heq664329 rfl (show 0 + 1 ≤ 1 by first | omega | decide) (show 0 + (2 * n664335 + 2 + z664483.toInt.toNat) ≤ (4 * n664335 + 64) by first | omega | decide) (Nat.le_of_ble_eq_true rfl) (fun r664487 w664488 dc664484 ds664485 hp664486 => ?_) (fun _ _ _ _ _ z => z.elim)
  obtain ⟨P664497, F664498, q664489, n664490, f664491, rfl, rfl, hsb664499, hfr664500, he664501, he664502, hm664503, hq664504, hdc, hds, bf664491, x664492, x664493, x664494, x664495, ht664496⟩ := hp664486
  have hm664505 : q664329 ∈ P664497 := hsb664499 q664329 hmq664329
  have hm664506 : q664330 ∈ P664497 := hsb664499 q664330 hmq664330
  have hor664507 : q664489 = q664330 ∨ q664489 ∉ P664327 := hq664504.elim Or.inl (fun n => Or.inr (fun z => n ((rSub_rf (P := P664327)) _ z)))
  have hsb664508 : rSub P664327 P664497 := rSub_tr (rSub_rf (P := P664327)) hsb664499
  have he664509 : F664498 q664330 = .inl (I .byte, n664335, .inl f664334) := (hfr664500 q664330 hmq664330 (nm_c (rn_ao heq664330 heq664329) nm_n)).trans heq664330
  have hfr664510 : rFr [q664329] P664327 F664328 F664498 := rFr_call (rSub_rf (P := P664327)) (rFr_rf (W := []) (P := P664327) (F := F664328)) hfr664500 (fun b hb hn => ⟨nm_n, (nm_c (fun e => hn (e ▸ List.mem_cons_self)) nm_n)⟩)
  change G _ _ _ _ _ _ _ _ _ _ _
  refine G_widen (cs' := 1) (sl' := 2 * (n664490 - n664335)) (by omega) (by omega) ?_
  refine G_aload_n 2 dr_cJ5_append_c97b9_17 rfl ?_
  refine Gw_callVB (As := []) (gV_ok D I) (cp_655489_AbstractStringBuilder_isLatin1 l hl0 D I P664497 F664498 q664329 q664489 p664332 p664333 f664491 n664490 hm664505 hm664503 he664501 he664502 bp664332 bp664333 bf664491 (by have qa0 : Int32.toInt 0 = 0 := (by decide); omega)) dr_cJ5_append_c97b9_18 ⟨wr_8_33, wr_1_19, wr_8_37, by decide, rfl, (Nat.le_of_ble_eq_true rfl), (Nat.le_of_ble_eq_true rfl)⟩ wr_8_34 wr_8_36 hm664505 he664501 rfl (show 1 + 0 ≤ 1 by first | omega | decide) (show 2 * (n664490 - n664335) + 0 ≤ (4 * n664335 + 64) by first | omega | decide) (Nat.le_of_ble_eq_true rfl) (fun r664514 w664515 dc664511 ds664512 hp664513 => ?_) (fun _ _ _ _ _ z => z.elim)
  obtain ⟨rfl, rfl, hdc, hds⟩ := hp664513
  change G _ _ _ _ _ _ _ (.int 1 :: _) _ _ _
  refine G_widen (cs' := 1) (sl' := 2 * (n664490 - n664335) + 0) (by omega) (by omega) ?_
  refine G_if_eq 37 dr_cJ5_append_c97b9_21 (by decide +kernel) (fun hc => absurd hc (by decide)) (fun _ => ?_)
  refine G_iload_n 3 dr_cJ5_append_c97b9_24 rfl ?_
  refine G_iload_n 0 dr_cJ5_append_c97b9_25 rfl ?_
  refine G_aload_n 2 dr_cJ5_append_c97b9_26 rfl ?_
  refine Gp_get 0 hm664505 he664501 dr_cJ5_append_c97b9_27 (gk_J4 D I) (Nat.le_of_ble_eq_true rfl) wr_7_60 rfl ?_
  refine Gw_callS (As := [.int p664331, .int z664483, .ref q664489]) (gV_ok D I) (cp_664526_Integer_getChars l hl0 D I P664497 F664498 q664489 p664331 z664483 f664491 n664490 hm664503 he664502 ⟨by omega, by omega⟩ bf664491 (by have qa0 : Int32.toInt 0 = 0 := (by decide); omega) (by have q10 : Int32.toInt 10 = 10 := (by decide); have q11 : Int32.toInt 11 = 11 := (by decide); first | exact dgS_up (by omega) (by omega) x664481 (by omega)) (by have qa0 : Int32.toInt 0 = 0 := (by decide); omega)) dr_cJ5_append_c97b9_30 ⟨wr_8_115, wr_1_35, wr_8_117, by decide, rfl, (Nat.le_of_ble_eq_true rfl), (Nat.le_of_ble_eq_true rfl)⟩ wr_8_116 (show 1 + 0 ≤ 1 by first | omega | decide) (show 2 * (n664490 - n664335) + 0 + 0 ≤ (4 * n664335 + 64) by first | omega | decide) (Nat.le_of_ble_eq_true rfl) (fun r664924 w664925 dc664921 ds664922 hp664923 => ?_) (fun _ _ _ _ _ z => z.elim)
  obtain ⟨F664929, o664926, f664927, rfl, rfl, hfr664931, he664932, hdc, hds, bo664926, bf664927, ht664928⟩ := hp664923
  have he664933 : F664929 q664329 = .inr (1, [.ref q664489, .int 0, .int p664332, .int p664333]) := (hfr664931 q664329 hm664505 (nm_c (rn_oa he664501 he664502) nm_n)).trans he664501
  have hfr664934 : rFr [q664329, q664330] P664327 F664328 F664929 := rFr_call hsb664508 hfr664510 hfr664931 (fun b hb hn => ⟨(nm_c (fun e => hn (e ▸ List.mem_cons_self)) nm_n), (nm_c (fun e => hor664507.elim (fun e2 => hn ((e.trans e2) ▸ (List.mem_cons_of_mem _ List.mem_cons_self))) (fun n => n (e ▸ hb))) nm_n)⟩)
  change G _ _ _ _ _ _ _ (.int o664926 :: _) _ _ _
  refine G_widen (cs' := 1) (sl' := 2 * (n664490 - n664335) + 0 + 0) (by omega) (by omega) ?_
  refine G_pop dr_cJ5_append_c97b9_33 rfl ?_
  refine G_goto 48 dr_cJ5_append_c97b9_34 (by decide +kernel) ?_
  refine G_aload_n 2 dr_cJ5_append_c97b9_48 rfl ?_
  refine G_iload_n 0 dr_cJ5_append_c97b9_49 rfl ?_
  refine Gp_put 3 hm664505 he664933 dr_cJ5_append_c97b9_50 (gk_J4 D I) (Nat.le_of_ble_eq_true rfl) wr_7_64 rfl rfl rfl (Nat.le_of_ble_eq_true rfl) (fun F664935 e664936 n664937 => ?_)
  have he664938 : F664935 q664489 = .inl (I .byte, n664490, .inl f664927) := (n664937 q664489 (rn_ao he664932 he664933)).trans he664932
  have he664939 : F664935 q664329 = .inr (1, [.ref q664489, .int 0, .int p664332, .int z664483]) := e664936
  have hfr664940 : rFr [q664329, q664330] P664327 F664328 F664935 := rFr_put' List.mem_cons_self hfr664934 n664937
  refine G_aload_n 2 dr_cJ5_append_c97b9_53 rfl ?_
  exact G_aretA (FieldType.object "java/lang/AbstractStringBuilder") dr_cJ5_append_c97b9_54 rfl (by first | exact Or.inl ⟨_, rfl⟩ | exact Or.inr ⟨_, rfl⟩) (Or.inr ⟨_, rfl⟩) (Nat.le_of_ble_eq_true rfl) (show 2 * (n664490 - n664335) + 0 + 0 ≤ (4 * n664335 + 64) by omega) ⟨P664497, F664935, z664483, q664489, n664490, f664927, rfl, rfl, hsb664508, hfr664940, he664939, he664938, hm664503, hor664507, (Nat.le_of_ble_eq_true rfl), (by omega), ⟨by omega, by omega⟩, bf664927, (by have qa0 : Int32.toInt 0 = 0 := (by decide); omega), (by have qa0 : Int32.toInt 0 = 0 := (by decide); omega), (by have qa0 : Int32.toInt 0 = 0 := (by decide); omega), (by have qa0 : Int32.toInt 0 = 0 := (by decide); omega), (by have qa0 : Int32.toInt 0 = 0 := (by decide); omega), (fun R c1 => c1 o664480 z664483 n664490 f664491 o664926 f664927 bo664480 ht664482 ez664483 ht664496 bo664926 ht664928)⟩
/- tr_RStringBuilder_append7: a.0...count, a.0.value.#, a.0.value.[] -/
def tr_RStringBuilder_append7 (a1 : Int32) (a0_count : Int32) (a0_value_v : Nat → Int32) (a0_value_n : Nat) (o1 : Int32) (o2 : Nat) (o3 : Nat → Int32) : Prop := ∀ R : (Int32) → (Nat) → (Nat → Int32) → Prop,
  (∀ (x1 : Int32) (x2 : Nat) (x3 : Nat → Int32), gB x1 1 16777216 → tr_RAbstractStringBuilder_append7 a1 a0_count a0_value_v a0_value_n x1 x2 x3 → R x1 x2 x3) →
  R o1 o2 o3
abbrev ky_664326_StringBuilder_append : gKey := (cJ4_append_bf812, 2, "java/lang/StringBuilder", (some (FieldType.object "java/lang/StringBuilder")), [], "append", fun _ _ => True)
def pp_664326_StringBuilder_append (D : va_G) (I : FieldType → ClassId) (P664314 : List Nat) (F664315 : Nat → va_E) (q664316 : Nat) (q664317 : Nat) (p664318 : Int32) (p664319 : Int32) (p664320 : Int32) (f664321 : Nat → Int32) (n664322 : Nat) : Option Value → va_W → Nat → Nat → Prop := fun r w dc ds => ∃ (P664979 : List Nat) (F664980 : Nat → va_E) (o664975 : Int32) (q664976 : Nat) (n664977 : Nat) (f664978 : Nat → Int32), r = some (.ref q664316) ∧ w = va_pl P664979 F664980 ∧ rSub P664314 P664979 ∧ rFr [q664316, q664317] P664314 F664315 F664980 ∧ F664980 q664316 = .inr (1, [.ref q664976, .int 0, .int p664319, .int o664975]) ∧ F664980 q664976 = .inl (I .byte, n664977, .inl f664978) ∧ q664976 ∈ P664979 ∧ (q664976 = q664317 ∨ q664976 ∉ P664314) ∧ dc ≤ 1 ∧ ds ≤ 2 * (n664977 - n664322) ∧ gB o664975 1 16777216 ∧ gF f664978 (-128) 127 ∧ p664320.toInt ≤ o664975.toInt ∧ o664975.toInt ≤ p664320.toInt + 11 ∧ o664975.toInt ≤ (n664977 : Int) ∧ (n664322 : Int) ≤ (n664977 : Int) ∧ ((n664977 : Int) ≤ 2 * (n664322 : Int) + 2 ∨ (n664977 : Int) ≤ p664320.toInt + 11) ∧ tr_RStringBuilder_append7 p664318 p664320 f664321 n664322 o664975 n664977 f664978
set_option maxRecDepth 100000 in
set_option maxHeartbeats 4000000 in
theorem cp_664326_StringBuilder_append (l : Launch) (hl0 : l.stackTraces = false) (D : va_G) (I : FieldType → ClassId) (P664314 : List Nat) (F664315 : Nat → va_E) (q664316 : Nat) (q664317 : Nat) (p664318 : Int32) (p664319 : Int32) (p664320 : Int32) (f664321 : Nat → Int32) (n664322 : Nat) (hmq664316 : q664316 ∈ P664314) (hmq664317 : q664317 ∈ P664314) (heq664316 : F664315 q664316 = .inr (1, [.ref q664317, .int 0, .int p664319, .int p664320])) (heq664317 : F664315 q664317 = .inl (I .byte, n664322, .inl f664321)) (bp664319 : gB p664319 0 1) (bp664320 : gB p664320 0 16777216) (bf664321 : gF f664321 (-128) 127) (x664323 : (n664322 : Int) ≤ 8388608 - 100000) (x664324 : p664320.toInt ≤ (n664322 : Int)) (x664325 : ((n664322 : Int) ≤ 16777216)) : CtA (gV D I) l yJ4_append_bf812 cJ4_append_bf812 2 (some (FieldType.object "java/lang/StringBuilder")) 5 107 1 (4 * n664322 + 64) [.ref q664316, .int p664318] (va_pl P664314 F664315) (pp_664326_StringBuilder_append D I P664314 F664315 q664316 q664317 p664318 p664319 p664320 f664321 n664322) gNA := by
  refine CtA_ofF hl0 (by decide +kernel) (Nat.le_of_ble_eq_true rfl) ?_
  have bp664318 := gB_any p664318
  refine G_aload_n 0 dr_cJ4_append_bf812_0 rfl ?_
  refine G_iload_n 1 dr_cJ4_append_bf812_1 rfl ?_
  refine Gw_callSU (As := [.int p664318]) (gV_ok D I) (cp_664339_AbstractStringBuilder_append l hl0 D I P664314 F664315 q664316 q664317 p664318 p664319 p664320 f664321 n664322 hmq664316 hmq664317 heq664316 heq664317 bp664319 bp664320 bf664321 (by have qa0 : Int32.toInt 0 = 0 := (by decide); omega) (by have qa0 : Int32.toInt 0 = 0 := (by decide); omega) (by have qa0 : Int32.toInt 0 = 0 := (by decide); omega)) dr_cJ4_append_bf812_2 ⟨wr_8_109, wr_1_19, wr_8_111, by decide, rfl, (Nat.le_of_ble_eq_true rfl), (Nat.le_of_ble_eq_true rfl)⟩ wr_8_110 wr_11_228 wr_7_73 wr_7_44 (by decide) hmq664316 heq664316 rfl (show 0 + 1 ≤ 1 by first | omega | decide) (show 0 + (4 * n664322 + 64) ≤ (4 * n664322 + 64) by first | omega | decide) (Nat.le_of_ble_eq_true rfl) (fun r664950 w664951 dc664947 ds664948 hp664949 => ?_)
  obtain ⟨P664962, F664963, o664952, q664953, n664954, f664955, rfl, rfl, hsb664964, hfr664965, he664966, he664967, hm664968, hq664969, hdc, hds, bo664952, bf664955, x664956, x664957, x664958, x664959, x664960, ht664961⟩ := hp664949
  have hm664970 : q664316 ∈ P664962 := hsb664964 q664316 hmq664316
  have hm664971 : q664317 ∈ P664962 := hsb664964 q664317 hmq664317
  have hor664972 : q664953 = q664317 ∨ q664953 ∉ P664314 := hq664969.elim Or.inl (fun n => Or.inr (fun z => n ((rSub_rf (P := P664314)) _ z)))
  have hsb664973 : rSub P664314 P664962 := rSub_tr (rSub_rf (P := P664314)) hsb664964
  have hfr664974 : rFr [q664316, q664317] P664314 F664315 F664963 := rFr_call (rSub_rf (P := P664314)) (rFr_rf (W := []) (P := P664314) (F := F664315)) hfr664965 (fun b hb hn => ⟨nm_n, (nm_c (fun e => hn (e ▸ List.mem_cons_self)) (nm_c (fun e => hn (e ▸ (List.mem_cons_of_mem _ List.mem_cons_self))) nm_n))⟩)
  change G _ _ _ _ _ _ _ (.ref q664316 :: _) _ _ _
  refine G_widen (cs' := 1) (sl' := 2 * (n664954 - n664322)) (by omega) (by omega) ?_
  refine G_pop dr_cJ4_append_bf812_5 rfl ?_
  refine G_aload_n 0 dr_cJ4_append_bf812_6 rfl ?_
  exact G_aretA (FieldType.object "java/lang/StringBuilder") dr_cJ4_append_bf812_7 rfl (by first | exact Or.inl ⟨_, rfl⟩ | exact Or.inr ⟨_, rfl⟩) (Or.inr ⟨_, rfl⟩) (Nat.le_of_ble_eq_true rfl) (show 2 * (n664954 - n664322) ≤ (4 * n664322 + 64) by omega) ⟨P664962, F664963, o664952, q664953, n664954, f664955, rfl, rfl, hsb664973, hfr664974, he664966, he664967, hm664968, hor664972, (Nat.le_of_ble_eq_true rfl), (by omega), bo664952, bf664955, (by have qa0 : Int32.toInt 0 = 0 := (by decide); omega), (by have qa0 : Int32.toInt 0 = 0 := (by decide); omega), (by have qa0 : Int32.toInt 0 = 0 := (by decide); omega), (by have qa0 : Int32.toInt 0 = 0 := (by decide); omega), (by have qa0 : Int32.toInt 0 = 0 := (by decide); omega), (fun R c1 => c1 o664952 n664954 f664955 bo664952 ht664961)⟩
/- tr_RReader_isDigit2: result -/
def tr_RReader_isDigit2 (a0 : Int32) (o1 : Int32) : Prop := ∀ R : (Int32) → Prop,
  (a0.toInt < 48 → R (0 : Int32)) →
  (48 ≤ a0.toInt → 57 < a0.toInt → R (0 : Int32)) →
  (48 ≤ a0.toInt → a0.toInt ≤ 57 → R (1 : Int32)) →
  R o1
abbrev ky_665041_Reader_isDigit : gKey := (cX14_isDigit, 1, "SpillForgeModel$Reader", (some FieldType.boolean), [], "isDigit", fun _ _ => True)
def pp_665041_Reader_isDigit (D : va_G) (I : FieldType → ClassId) (P665038 : List Nat) (F665039 : Nat → va_E) (p665040 : Int32) : Option Value → va_W → Nat → Nat → Prop := fun r w dc ds => ∃ (o665048 : Int32), r = some (.int o665048) ∧ w = va_pl P665038 F665039 ∧ dc ≤ 0 ∧ ds ≤ 0 ∧ gB o665048 0 1 ∧ isP p665040 48 57 o665048 ∧ tr_RReader_isDigit2 p665040 o665048
set_option maxRecDepth 100000 in
set_option maxHeartbeats 4000000 in
theorem cp_665041_Reader_isDigit (l : Launch) (hl0 : l.stackTraces = false) (D : va_G) (I : FieldType → ClassId) (P665038 : List Nat) (F665039 : Nat → va_E) (p665040 : Int32)  : CtA (gV D I) l yX14_isDigit cX14_isDigit 1 (some FieldType.boolean) 0 0 0 0 [.int p665040] (va_pl P665038 F665039) (pp_665041_Reader_isDigit D I P665038 F665039 p665040) gNA := by
  refine CtA_of hl0 (by decide) (Nat.le_of_ble_eq_true rfl) ?_
  have bp665040 := gB_any p665040
  refine G_iload_n 0 dr_cX14_isDigit_0 rfl ?_
  refine G_bipush 48 dr_cX14_isDigit_1 (by decide +kernel) ?_
  refine G_icmp_lt 16 dr_cX14_isDigit_3 (by decide +kernel) (fun hc665042 => ?_) (fun hc665042 => ?_)
  · have r665043 : p665040.toInt < 48 := gj_lt hc665042 (show Int32.toInt 48 = 48 by decide)
    have bp665040' : gB p665040 (-2147483648) 47 := ⟨by omega, by omega⟩
    refine G_iconst 0 dr_cX14_isDigit_16 (by decide +kernel) ?_
    exact G_zretA FieldType.boolean dr_cX14_isDigit_17 rfl rfl (Nat.le_of_ble_eq_true rfl) (Nat.le_of_ble_eq_true rfl) ⟨0, rfl, rfl, (Nat.le_of_ble_eq_true rfl), (Nat.le_of_ble_eq_true rfl), (gB_w (gBl (show Int32.toInt 0 = 0 by decide)) (by decide) (by decide)), (isP_n (by omega)), (fun R c1 c2 c3 => c1 r665043)⟩
  · have r665044 : 48 ≤ p665040.toInt := gj_nlt hc665042 (show Int32.toInt 48 = 48 by decide)
    have bp665040' : gB p665040 48 2147483647 := ⟨by omega, by omega⟩
    refine G_iload_n 0 dr_cX14_isDigit_6 rfl ?_
    refine G_bipush 57 dr_cX14_isDigit_7 (by decide +kernel) ?_
    refine G_icmp_gt 16 dr_cX14_isDigit_9 (by decide +kernel) (fun hc665045 => ?_) (fun hc665045 => ?_)
    · have r665046 : 57 < p665040.toInt := gj_ltL hc665045 (show Int32.toInt 57 = 57 by decide)
      have bp665040'' : gB p665040 58 2147483647 := ⟨by omega, by omega⟩
      refine G_iconst 0 dr_cX14_isDigit_16 (by decide +kernel) ?_
      exact G_zretA FieldType.boolean dr_cX14_isDigit_17 rfl rfl (Nat.le_of_ble_eq_true rfl) (Nat.le_of_ble_eq_true rfl) ⟨0, rfl, rfl, (Nat.le_of_ble_eq_true rfl), (Nat.le_of_ble_eq_true rfl), (gB_w (gBl (show Int32.toInt 0 = 0 by decide)) (by decide) (by decide)), (isP_n (by omega)), (fun R c1 c2 c3 => c2 r665044 r665046)⟩
    · have r665047 : p665040.toInt ≤ 57 := gj_nltL hc665045 (show Int32.toInt 57 = 57 by decide)
      have bp665040'' : gB p665040 48 57 := ⟨by omega, by omega⟩
      refine G_iconst 1 dr_cX14_isDigit_12 (by decide +kernel) ?_
      refine G_goto 17 dr_cX14_isDigit_13 (by decide +kernel) ?_
      exact G_zretA FieldType.boolean dr_cX14_isDigit_17 rfl rfl (Nat.le_of_ble_eq_true rfl) (Nat.le_of_ble_eq_true rfl) ⟨1, rfl, rfl, (Nat.le_of_ble_eq_true rfl), (Nat.le_of_ble_eq_true rfl), (gB_w (gBl (show Int32.toInt 1 = 1 by decide)) (by decide) (by decide)), (isP_y (by omega) (by omega)), (fun R c1 c2 c3 => c3 r665044 r665047)⟩
/- tr_RMath_min: result -/
def tr_RMath_min (a0 : Int64) (a1 : Int64) (o1 : Int64) : Prop := ∀ R : (Int64) → Prop,
  (∀ (x1 : Int32), x1 = lg_cmp a0 a1 → 0 < x1.toInt → R a1) →
  (∀ (x1 : Int32), x1 = lg_cmp a0 a1 → x1.toInt ≤ 0 → R a0) →
  R o1
abbrev ky_665095_Math_min : gKey := (cJ9_min_f86c9, 4, "java/lang/Math", (some FieldType.long), [], "min", fun _ _ => True)
def pp_665095_Math_min (D : va_G) (I : FieldType → ClassId) (P665091 : List Nat) (F665092 : Nat → va_E) (pl665093 : Int64) (pl665094 : Int64) : Option Value → va_W → Nat → Nat → Prop := fun r w dc ds => ∃ (ol665100 : Int64), r = some (.long ol665100) ∧ w = va_pl P665091 F665092 ∧ dc ≤ 0 ∧ ds ≤ 0 ∧ lmP pl665093 pl665094 ol665100 ∧ tr_RMath_min pl665093 pl665094 ol665100
set_option maxRecDepth 100000 in
set_option maxHeartbeats 4000000 in
theorem cp_665095_Math_min (l : Launch) (hl0 : l.stackTraces = false) (D : va_G) (I : FieldType → ClassId) (P665091 : List Nat) (F665092 : Nat → va_E) (pl665093 : Int64) (pl665094 : Int64)  : CtA (gV D I) l yJ9_min_f86c9 cJ9_min_f86c9 4 (some FieldType.long) 0 0 0 0 [.long pl665093, .long pl665094] (va_pl P665091 F665092) (pp_665095_Math_min D I P665091 F665092 pl665093 pl665094) gNA := by
  refine CtA_ofF hl0 (by decide +kernel) (Nat.le_of_ble_eq_true rfl) ?_
  refine G_lload_n 0 dr_cJ9_min_f86c9_0 rfl ?_
  refine G_lload_n 1 dr_cJ9_min_f86c9_1 rfl ?_
  refine G_lcmp dr_cJ9_min_f86c9_2 (G_nam fun z665096 hz665096 => ?_)
  have bz665096 : gB z665096 (-1) 1 := gB_cmp hz665096
  refine G_if_gt 10 dr_cJ9_min_f86c9_3 (by decide +kernel) (fun hc665097 => ?_) (fun hc665097 => ?_)
  · have r665098 : 0 < z665096.toInt := gj_ltL hc665097 (show Int32.toInt 0 = 0 by decide)
    have bz665096' : gB z665096 1 1 := ⟨by omega, by omega⟩
    have lhc665097 := gC_cmpS hz665096 (by omega)
    refine G_lload_n 1 dr_cJ9_min_f86c9_10 rfl ?_
    exact G_lretA dr_cJ9_min_f86c9_11 rfl (Nat.le_of_ble_eq_true rfl) (Nat.le_of_ble_eq_true rfl) ⟨pl665094, rfl, rfl, (Nat.le_of_ble_eq_true rfl), (Nat.le_of_ble_eq_true rfl), (by first | exact lm_r | exact lm_l (by assumption) (by omega)), (fun R c1 c2 => c1 z665096 hz665096 r665098)⟩
  · have r665099 : z665096.toInt ≤ 0 := gj_nltL hc665097 (show Int32.toInt 0 = 0 by decide)
    have bz665096' : gB z665096 (-1) 0 := ⟨by omega, by omega⟩
    refine G_lload_n 0 dr_cJ9_min_f86c9_6 rfl ?_
    refine G_goto 11 dr_cJ9_min_f86c9_7 (by decide +kernel) ?_
    exact G_lretA dr_cJ9_min_f86c9_11 rfl (Nat.le_of_ble_eq_true rfl) (Nat.le_of_ble_eq_true rfl) ⟨pl665093, rfl, rfl, (Nat.le_of_ble_eq_true rfl), (Nat.le_of_ble_eq_true rfl), (by first | exact lm_r | exact lm_l (by assumption) (by omega)), (fun R c1 c2 => c2 z665096 hz665096 r665099)⟩
/- tl_RReader_number_16: l2, a0_at; out: l2, a0_at -/
def tl_RReader_number_16 (a0_n : Int32) (a0_t_v : Nat → Int32) (s1 : Int64) (s2 : Int32) (k : Nat) (e1 : Int64) (e2 : Int32) : Prop := ∀ R : (Int64) → (Int32) → Nat → (Int64) → (Int32) → Prop,
  (∀ (l2_1 : Int64) (a0_at_1 : Int32), gB a0_at_1 0 8192 → a0_n.toInt ≤ a0_at_1.toInt → R l2_1 a0_at_1 82 l2_1 a0_at_1) →
  (∀ (l2_1 : Int64) (a0_at_1 : Int32) (x1 : Int32) (x2 : Int32), gB a0_at_1 0 8192 → a0_at_1.toInt < a0_n.toInt → x1 = a0_t_v a0_at_1.toNatClampNeg → gB x1 (-128) 127 → gB x2 0 1 → tr_RReader_isDigit2 x1 x2 → x2.toInt = 0 → R l2_1 a0_at_1 82 l2_1 a0_at_1) →
  (∀ (l2_1 : Int64) (a0_at_1 : Int32) (x1 : Int32) (x2 : Int32) (x3 : Int64) (x4 : Int64) (x5 : Int64) (x6 : Int64) (x7 : Int64) (x8 : Int32) (k : Nat) (e1 : Int64) (e2 : Int32), gB a0_at_1 0 8192 → a0_at_1.toInt < a0_n.toInt → x1 = a0_t_v a0_at_1.toNatClampNeg → gB x1 (-128) 127 → gB x2 0 1 → tr_RReader_isDigit2 x1 x2 → x2.toInt ≠ 0 → x3 = l2_1 * (10 : Int64) → x4 = x1.toInt64 → x5 = x3 + x4 → x6 = x5 - (48 : Int64) → tr_RMath_min x6 (1099511627776 : Int64) x7 → x8.toInt = a0_at_1.toInt + 1 → R x7 x8 k e1 e2 → R l2_1 a0_at_1 k e1 e2) →
  R s1 s2 k e1 e2
/- tl_RReader_number_16_2: l2, a0_at; out: l2, a0_at -/
def tl_RReader_number_16_2 (a0_n : Int32) (a0_t_v : Nat → Int32) (s1 : Int64) (s2 : Int32) (k : Nat) (e1 : Int64) (e2 : Int32) : Prop := ∀ R : (Int64) → (Int32) → Nat → (Int64) → (Int32) → Prop,
  (∀ (l2_1 : Int64) (a0_at_1 : Int32), gB a0_at_1 0 8192 → a0_n.toInt ≤ a0_at_1.toInt → R l2_1 a0_at_1 82 l2_1 a0_at_1) →
  (∀ (l2_1 : Int64) (a0_at_1 : Int32) (x1 : Int32) (x2 : Int32), gB a0_at_1 0 8192 → a0_at_1.toInt < a0_n.toInt → x1 = a0_t_v a0_at_1.toNatClampNeg → gB x1 (-128) 127 → gB x2 0 1 → tr_RReader_isDigit2 x1 x2 → x2.toInt = 0 → R l2_1 a0_at_1 82 l2_1 a0_at_1) →
  (∀ (l2_1 : Int64) (a0_at_1 : Int32) (x1 : Int32) (x2 : Int32) (x3 : Int64) (x4 : Int64) (x5 : Int64) (x6 : Int64) (x7 : Int64) (x8 : Int32) (k : Nat) (e1 : Int64) (e2 : Int32), gB a0_at_1 0 8192 → a0_at_1.toInt < a0_n.toInt → x1 = a0_t_v a0_at_1.toNatClampNeg → gB x1 (-128) 127 → gB x2 0 1 → tr_RReader_isDigit2 x1 x2 → x2.toInt ≠ 0 → x3 = l2_1 * (10 : Int64) → x4 = x1.toInt64 → x5 = x3 + x4 → x6 = x5 - (48 : Int64) → tr_RMath_min x6 (1099511627776 : Int64) x7 → x8.toInt = a0_at_1.toInt + 1 → R x7 x8 k e1 e2 → R l2_1 a0_at_1 k e1 e2) →
  R s1 s2 k e1 e2
/- tr_RReader_number: a.0...at, a.0...kind, a.0...value -/
def tr_RReader_number (a1 : Int32) (a0_n : Int32) (a0_at : Int32) (a0_t_v : Nat → Int32) (o1 : Int32) (o2 : Int32) (o3 : Int32) (o4 : gTx) : Prop := ∀ R : (Int32) → (Int32) → (Int32) → (gTx) → Prop,
  (∀ (x1 : Int64) (x2 : Int32) (x3 : Int32) (x4 : Int32) (x5 : Int64), a1.toInt = 0 → tl_RReader_number_16 a0_n a0_t_v (0 : Int64) a0_at 82 x1 x2 → x3 = x1.toInt32 → x4 = x1.toInt32 → x5 = x4.toInt64 → (¬ x1 = x5) → R x2 (6 : Int32) x3 (0, fun _ => 0)) →
  (∀ (x1 : Int64) (x2 : Int32) (x3 : Int32) (x4 : Int32) (x5 : Int64), a1.toInt = 0 → tl_RReader_number_16 a0_n a0_t_v (0 : Int64) a0_at 82 x1 x2 → x3 = x1.toInt32 → x4 = x1.toInt32 → x5 = x4.toInt64 → x1 = x5 → R x2 (4 : Int32) x3 (0, fun _ => 0)) →
  (∀ (x1 : Int32) (x2 : Int64) (x3 : Int32) (x4 : Int64) (x5 : Int32) (x6 : Int32) (x7 : Int64), a1.toInt ≠ 0 → x1.toInt = a0_at.toInt + 1 → tl_RReader_number_16_2 a0_n a0_t_v (0 : Int64) x1 82 x2 x3 → x4 = -x2 → x5 = x4.toInt32 → x6 = x4.toInt32 → x7 = x6.toInt64 → (¬ x4 = x7) → R x3 (6 : Int32) x5 (0, fun _ => 0)) →
  (∀ (x1 : Int32) (x2 : Int64) (x3 : Int32) (x4 : Int64) (x5 : Int32) (x6 : Int32) (x7 : Int64), a1.toInt ≠ 0 → x1.toInt = a0_at.toInt + 1 → tl_RReader_number_16_2 a0_n a0_t_v (0 : Int64) x1 82 x2 x3 → x4 = -x2 → x5 = x4.toInt32 → x6 = x4.toInt32 → x7 = x6.toInt64 → x4 = x7 → R x3 (4 : Int32) x5 (0, fun _ => 0)) →
  R o1 o2 o3 o4
