theorem dr_cJ6_getChars_ba4f3_0 : decode cJ6_getChars_ba4f3 0 = .ok (.iload_n 1, 1) := by decide +kernel
theorem dr_cJ6_getChars_ba4f3_1 : decode cJ6_getChars_ba4f3 1 = .ok (.istore 5, 2) := by decide +kernel
theorem dr_cJ6_getChars_ba4f3_3 : decode cJ6_getChars_ba4f3 3 = .ok (.iload_n 0, 1) := by decide +kernel
theorem dr_cJ6_getChars_ba4f3_4 : decode cJ6_getChars_ba4f3 4 = .ok (.ifCond .ge 7, 3) := by decide +kernel
theorem dr_cJ6_getChars_ba4f3_11 : decode cJ6_getChars_ba4f3 11 = .ok (.iconst 0, 1) := by decide +kernel
theorem dr_cJ6_getChars_ba4f3_12 : decode cJ6_getChars_ba4f3 12 = .ok (.istore 6, 2) := by decide +kernel
theorem dr_cJ6_getChars_ba4f3_14 : decode cJ6_getChars_ba4f3 14 = .ok (.iload 6, 2) := by decide +kernel
theorem dr_cJ6_getChars_ba4f3_16 : decode cJ6_getChars_ba4f3 16 = .ok (.ifCond .ne 6, 3) := by decide +kernel
theorem dr_cJ6_getChars_ba4f3_19 : decode cJ6_getChars_ba4f3 19 = .ok (.iload_n 0, 1) := by decide +kernel
theorem dr_cJ6_getChars_ba4f3_20 : decode cJ6_getChars_ba4f3 20 = .ok (.ineg, 1) := by decide +kernel
theorem dr_cJ6_getChars_ba4f3_21 : decode cJ6_getChars_ba4f3 21 = .ok (.istore_n 0, 1) := by decide +kernel
theorem dr_cJ6_getChars_ba4f3_22 : decode cJ6_getChars_ba4f3 22 = .ok (.iload_n 0, 1) := by decide +kernel
theorem dr_cJ6_getChars_ba4f3_23 : decode cJ6_getChars_ba4f3 23 = .ok (.bipush (-100), 2) := by decide +kernel
theorem dr_cJ6_getChars_ba4f3_25 : decode cJ6_getChars_ba4f3 25 = .ok (.if_icmp .gt 47, 3) := by decide +kernel
theorem dr_cJ6_getChars_ba4f3_72 : decode cJ6_getChars_ba4f3 72 = .ok (.aload_n 2, 1) := by decide +kernel
theorem dr_cJ6_getChars_ba4f3_73 : decode cJ6_getChars_ba4f3 73 = .ok (.iinc 5 (-1), 3) := by decide +kernel
theorem dr_cJ6_getChars_ba4f3_76 : decode cJ6_getChars_ba4f3 76 = .ok (.iload 5, 2) := by decide +kernel
theorem dr_cJ6_getChars_ba4f3_78 : decode cJ6_getChars_ba4f3 78 = .ok (.getstatic 83, 3) := by decide +kernel
theorem wr_8_118 : (Jvm.Cond.fieldLink "java/lang/Integer" (83 : Nat) "java/lang/Integer" "DigitOnes" "[B") ∈ gw := gw_8 118 rfl rfl
theorem dr_cJ6_getChars_ba4f3_81 : decode cJ6_getChars_ba4f3 81 = .ok (.iload_n 0, 1) := by decide +kernel
theorem dr_cJ6_getChars_ba4f3_82 : decode cJ6_getChars_ba4f3 82 = .ok (.ineg, 1) := by decide +kernel
theorem dr_cJ6_getChars_ba4f3_83 : decode cJ6_getChars_ba4f3 83 = .ok (.baload, 1) := by decide +kernel
theorem dr_cJ6_getChars_ba4f3_84 : decode cJ6_getChars_ba4f3 84 = .ok (.bastore, 1) := by decide +kernel
theorem dr_cJ6_getChars_ba4f3_85 : decode cJ6_getChars_ba4f3 85 = .ok (.iload_n 0, 1) := by decide +kernel
theorem dr_cJ6_getChars_ba4f3_86 : decode cJ6_getChars_ba4f3 86 = .ok (.bipush (-9), 2) := by decide +kernel
theorem dr_cJ6_getChars_ba4f3_88 : decode cJ6_getChars_ba4f3 88 = .ok (.if_icmp .ge 16, 3) := by decide +kernel
theorem dr_cJ6_getChars_ba4f3_104 : decode cJ6_getChars_ba4f3 104 = .ok (.iload 6, 2) := by decide +kernel
theorem dr_cJ6_getChars_ba4f3_106 : decode cJ6_getChars_ba4f3 106 = .ok (.ifCond .eq 12, 3) := by decide +kernel
theorem dr_cJ6_getChars_ba4f3_118 : decode cJ6_getChars_ba4f3 118 = .ok (.iload 5, 2) := by decide +kernel
theorem dr_cJ6_getChars_ba4f3_120 : decode cJ6_getChars_ba4f3 120 = .ok (.ireturn, 1) := by decide +kernel
theorem dr_cJ6_getChars_ba4f3_91 : decode cJ6_getChars_ba4f3 91 = .ok (.aload_n 2, 1) := by decide +kernel
theorem dr_cJ6_getChars_ba4f3_92 : decode cJ6_getChars_ba4f3 92 = .ok (.iinc 5 (-1), 3) := by decide +kernel
theorem dr_cJ6_getChars_ba4f3_95 : decode cJ6_getChars_ba4f3 95 = .ok (.iload 5, 2) := by decide +kernel
theorem dr_cJ6_getChars_ba4f3_97 : decode cJ6_getChars_ba4f3 97 = .ok (.getstatic 87, 3) := by decide +kernel
theorem wr_8_120 : (Jvm.Cond.fieldLink "java/lang/Integer" (87 : Nat) "java/lang/Integer" "DigitTens" "[B") ∈ gw := gw_8 120 rfl rfl
theorem dr_cJ6_getChars_ba4f3_100 : decode cJ6_getChars_ba4f3 100 = .ok (.iload_n 0, 1) := by decide +kernel
theorem dr_cJ6_getChars_ba4f3_101 : decode cJ6_getChars_ba4f3 101 = .ok (.ineg, 1) := by decide +kernel
theorem dr_cJ6_getChars_ba4f3_102 : decode cJ6_getChars_ba4f3 102 = .ok (.baload, 1) := by decide +kernel
theorem dr_cJ6_getChars_ba4f3_103 : decode cJ6_getChars_ba4f3 103 = .ok (.bastore, 1) := by decide +kernel
theorem dr_cJ6_getChars_ba4f3_28 : decode cJ6_getChars_ba4f3 28 = .ok (.iload_n 0, 1) := by decide +kernel
theorem dr_cJ6_getChars_ba4f3_29 : decode cJ6_getChars_ba4f3 29 = .ok (.bipush 100, 2) := by decide +kernel
theorem dr_cJ6_getChars_ba4f3_31 : decode cJ6_getChars_ba4f3 31 = .ok (.idiv, 1) := by decide +kernel
theorem dr_cJ6_getChars_ba4f3_32 : decode cJ6_getChars_ba4f3 32 = .ok (.istore_n 3, 1) := by decide +kernel
theorem dr_cJ6_getChars_ba4f3_33 : decode cJ6_getChars_ba4f3 33 = .ok (.iload_n 3, 1) := by decide +kernel
theorem dr_cJ6_getChars_ba4f3_34 : decode cJ6_getChars_ba4f3 34 = .ok (.bipush 100, 2) := by decide +kernel
theorem dr_cJ6_getChars_ba4f3_36 : decode cJ6_getChars_ba4f3 36 = .ok (.imul, 1) := by decide +kernel
theorem dr_cJ6_getChars_ba4f3_37 : decode cJ6_getChars_ba4f3 37 = .ok (.iload_n 0, 1) := by decide +kernel
theorem dr_cJ6_getChars_ba4f3_38 : decode cJ6_getChars_ba4f3 38 = .ok (.isub, 1) := by decide +kernel
theorem dr_cJ6_getChars_ba4f3_39 : decode cJ6_getChars_ba4f3 39 = .ok (.istore 4, 2) := by decide +kernel
theorem dr_cJ6_getChars_ba4f3_41 : decode cJ6_getChars_ba4f3 41 = .ok (.iload_n 3, 1) := by decide +kernel
theorem dr_cJ6_getChars_ba4f3_42 : decode cJ6_getChars_ba4f3 42 = .ok (.istore_n 0, 1) := by decide +kernel
theorem dr_cJ6_getChars_ba4f3_43 : decode cJ6_getChars_ba4f3 43 = .ok (.aload_n 2, 1) := by decide +kernel
theorem dr_cJ6_getChars_ba4f3_44 : decode cJ6_getChars_ba4f3 44 = .ok (.iinc 5 (-1), 3) := by decide +kernel
theorem dr_cJ6_getChars_ba4f3_47 : decode cJ6_getChars_ba4f3 47 = .ok (.iload 5, 2) := by decide +kernel
theorem dr_cJ6_getChars_ba4f3_49 : decode cJ6_getChars_ba4f3 49 = .ok (.getstatic 83, 3) := by decide +kernel
theorem dr_cJ6_getChars_ba4f3_52 : decode cJ6_getChars_ba4f3 52 = .ok (.iload 4, 2) := by decide +kernel
theorem dr_cJ6_getChars_ba4f3_54 : decode cJ6_getChars_ba4f3 54 = .ok (.baload, 1) := by decide +kernel
theorem dr_cJ6_getChars_ba4f3_55 : decode cJ6_getChars_ba4f3 55 = .ok (.bastore, 1) := by decide +kernel
theorem dr_cJ6_getChars_ba4f3_56 : decode cJ6_getChars_ba4f3 56 = .ok (.aload_n 2, 1) := by decide +kernel
theorem dr_cJ6_getChars_ba4f3_57 : decode cJ6_getChars_ba4f3 57 = .ok (.iinc 5 (-1), 3) := by decide +kernel
theorem dr_cJ6_getChars_ba4f3_60 : decode cJ6_getChars_ba4f3 60 = .ok (.iload 5, 2) := by decide +kernel
theorem dr_cJ6_getChars_ba4f3_62 : decode cJ6_getChars_ba4f3 62 = .ok (.getstatic 87, 3) := by decide +kernel
theorem dr_cJ6_getChars_ba4f3_65 : decode cJ6_getChars_ba4f3 65 = .ok (.iload 4, 2) := by decide +kernel
theorem dr_cJ6_getChars_ba4f3_67 : decode cJ6_getChars_ba4f3 67 = .ok (.baload, 1) := by decide +kernel
theorem dr_cJ6_getChars_ba4f3_68 : decode cJ6_getChars_ba4f3 68 = .ok (.bastore, 1) := by decide +kernel
theorem dr_cJ6_getChars_ba4f3_69 : decode cJ6_getChars_ba4f3 69 = .ok (.goto (-47), 3) := by decide +kernel
theorem dr_cJ6_getChars_ba4f3_7 : decode cJ6_getChars_ba4f3 7 = .ok (.iconst 1, 1) := by decide +kernel
theorem dr_cJ6_getChars_ba4f3_8 : decode cJ6_getChars_ba4f3 8 = .ok (.goto 4, 3) := by decide +kernel
theorem dr_cJ6_getChars_ba4f3_109 : decode cJ6_getChars_ba4f3 109 = .ok (.aload_n 2, 1) := by decide +kernel
theorem dr_cJ6_getChars_ba4f3_110 : decode cJ6_getChars_ba4f3 110 = .ok (.iinc 5 (-1), 3) := by decide +kernel
theorem dr_cJ6_getChars_ba4f3_113 : decode cJ6_getChars_ba4f3 113 = .ok (.iload 5, 2) := by decide +kernel
theorem dr_cJ6_getChars_ba4f3_115 : decode cJ6_getChars_ba4f3 115 = .ok (.bipush 45, 2) := by decide +kernel
theorem dr_cJ6_getChars_ba4f3_117 : decode cJ6_getChars_ba4f3 117 = .ok (.bastore, 1) := by decide +kernel
theorem dr_cJ5_append_c97b9_0 : decode cJ5_append_c97b9 0 = .ok (.aload_n 0, 1) := by decide +kernel
theorem dr_cJ5_append_c97b9_1 : decode cJ5_append_c97b9 1 = .ok (.getfield 79, 3) := by decide +kernel
theorem dr_cJ5_append_c97b9_4 : decode cJ5_append_c97b9 4 = .ok (.istore_n 2, 1) := by decide +kernel
theorem dr_cJ5_append_c97b9_5 : decode cJ5_append_c97b9 5 = .ok (.iload_n 2, 1) := by decide +kernel
theorem dr_cJ5_append_c97b9_6 : decode cJ5_append_c97b9 6 = .ok (.iload_n 1, 1) := by decide +kernel
theorem dr_cJ5_append_c97b9_7 : decode cJ5_append_c97b9 7 = .ok (.invokestatic 245, 3) := by decide +kernel
theorem wr_8_112 : (Jvm.Cond.methodLink "java/lang/AbstractStringBuilder" (245 : Nat) ({ cls := "java/lang/Integer", name := "stringSize", desc := "(I)I" } : Jvm.MethodName)) ∈ gw := gw_8 112 rfl rfl
theorem wr_8_114 : (Jvm.Cond.code ({ cls := "java/lang/Integer", name := "stringSize", desc := "(I)I" } : Jvm.MethodName) prog_29_method_13_code (4 : Nat) (Option.some Jvm.ClassFile.FieldType.int)) ∈ gw := gw_8 114 rfl rfl
theorem wr_8_113 : (Jvm.Cond.static ({ cls := "java/lang/Integer", name := "stringSize", desc := "(I)I" } : Jvm.MethodName)) ∈ gw := gw_8 113 rfl rfl
theorem dr_cJ5_append_c97b9_10 : decode cJ5_append_c97b9 10 = .ok (.iadd, 1) := by decide +kernel
theorem dr_cJ5_append_c97b9_11 : decode cJ5_append_c97b9 11 = .ok (.istore_n 3, 1) := by decide +kernel
theorem dr_cJ5_append_c97b9_12 : decode cJ5_append_c97b9 12 = .ok (.aload_n 0, 1) := by decide +kernel
theorem dr_cJ5_append_c97b9_13 : decode cJ5_append_c97b9 13 = .ok (.iload_n 3, 1) := by decide +kernel
theorem dr_cJ5_append_c97b9_14 : decode cJ5_append_c97b9 14 = .ok (.invokevirtual 100, 3) := by decide +kernel
theorem dr_cJ5_append_c97b9_17 : decode cJ5_append_c97b9 17 = .ok (.aload_n 0, 1) := by decide +kernel
theorem dr_cJ5_append_c97b9_18 : decode cJ5_append_c97b9 18 = .ok (.invokevirtual 83, 3) := by decide +kernel
theorem dr_cJ5_append_c97b9_21 : decode cJ5_append_c97b9 21 = .ok (.ifCond .eq 16, 3) := by decide +kernel
theorem dr_cJ5_append_c97b9_24 : decode cJ5_append_c97b9 24 = .ok (.iload_n 1, 1) := by decide +kernel
theorem dr_cJ5_append_c97b9_25 : decode cJ5_append_c97b9 25 = .ok (.iload_n 3, 1) := by decide +kernel
theorem dr_cJ5_append_c97b9_26 : decode cJ5_append_c97b9 26 = .ok (.aload_n 0, 1) := by decide +kernel
theorem dr_cJ5_append_c97b9_27 : decode cJ5_append_c97b9 27 = .ok (.getfield 15, 3) := by decide +kernel
theorem dr_cJ5_append_c97b9_30 : decode cJ5_append_c97b9 30 = .ok (.invokestatic 248, 3) := by decide +kernel
theorem wr_8_115 : (Jvm.Cond.methodLink "java/lang/AbstractStringBuilder" (248 : Nat) ({ cls := "java/lang/Integer", name := "getChars", desc := "(II[B)I" } : Jvm.MethodName)) ∈ gw := gw_8 115 rfl rfl
theorem wr_8_117 : (Jvm.Cond.code ({ cls := "java/lang/Integer", name := "getChars", desc := "(II[B)I" } : Jvm.MethodName) prog_29_method_12_code (7 : Nat) (Option.some Jvm.ClassFile.FieldType.int)) ∈ gw := gw_8 117 rfl rfl
theorem wr_8_116 : (Jvm.Cond.static ({ cls := "java/lang/Integer", name := "getChars", desc := "(II[B)I" } : Jvm.MethodName)) ∈ gw := gw_8 116 rfl rfl
theorem dr_cJ5_append_c97b9_33 : decode cJ5_append_c97b9 33 = .ok (.pop, 1) := by decide +kernel
theorem dr_cJ5_append_c97b9_34 : decode cJ5_append_c97b9 34 = .ok (.goto 14, 3) := by decide +kernel
theorem dr_cJ5_append_c97b9_48 : decode cJ5_append_c97b9 48 = .ok (.aload_n 0, 1) := by decide +kernel
theorem dr_cJ5_append_c97b9_49 : decode cJ5_append_c97b9 49 = .ok (.iload_n 3, 1) := by decide +kernel
theorem dr_cJ5_append_c97b9_50 : decode cJ5_append_c97b9 50 = .ok (.putfield 79, 3) := by decide +kernel
theorem dr_cJ5_append_c97b9_53 : decode cJ5_append_c97b9 53 = .ok (.aload_n 0, 1) := by decide +kernel
theorem dr_cJ5_append_c97b9_54 : decode cJ5_append_c97b9 54 = .ok (.areturn, 1) := by decide +kernel
theorem dr_cJ4_append_bf812_0 : decode cJ4_append_bf812 0 = .ok (.aload_n 0, 1) := by decide +kernel
theorem dr_cJ4_append_bf812_1 : decode cJ4_append_bf812 1 = .ok (.iload_n 1, 1) := by decide +kernel
theorem dr_cJ4_append_bf812_2 : decode cJ4_append_bf812 2 = .ok (.invokespecial 53, 3) := by decide +kernel
theorem wr_8_109 : (Jvm.Cond.methodLink "java/lang/StringBuilder" (53 : Nat) ({ cls := "java/lang/AbstractStringBuilder", name := "append", desc := "(I)Ljava/lang/AbstractStringBuilder;" } : Jvm.MethodName)) ∈ gw := gw_8 109 rfl rfl
theorem wr_8_111 : (Jvm.Cond.code ({ cls := "java/lang/AbstractStringBuilder", name := "append", desc := "(I)Ljava/lang/AbstractStringBuilder;" } : Jvm.MethodName) prog_21_method_32_code (4 : Nat) (Option.some (Jvm.ClassFile.FieldType.object "java/lang/AbstractStringBuilder"))) ∈ gw := gw_8 111 rfl rfl
theorem wr_8_110 : (Jvm.Cond.instanceMethod ({ cls := "java/lang/AbstractStringBuilder", name := "append", desc := "(I)Ljava/lang/AbstractStringBuilder;" } : Jvm.MethodName)) ∈ gw := gw_8 110 rfl rfl
theorem wr_11_228 : (Jvm.Cond.sameMethod "java/lang/AbstractStringBuilder" "java/lang/AbstractStringBuilder" "append" "(I)Ljava/lang/AbstractStringBuilder;") ∈ gw := gw_11 228 rfl rfl
theorem dr_cJ4_append_bf812_5 : decode cJ4_append_bf812 5 = .ok (.pop, 1) := by decide +kernel
theorem dr_cJ4_append_bf812_6 : decode cJ4_append_bf812 6 = .ok (.aload_n 0, 1) := by decide +kernel
theorem dr_cJ4_append_bf812_7 : decode cJ4_append_bf812 7 = .ok (.areturn, 1) := by decide +kernel
theorem dr_cJ9_min_f86c9_0 : decode cJ9_min_f86c9 0 = .ok (.lload_n 0, 1) := by decide +kernel
theorem dr_cJ9_min_f86c9_1 : decode cJ9_min_f86c9 1 = .ok (.lload_n 2, 1) := by decide +kernel
theorem dr_cJ9_min_f86c9_2 : decode cJ9_min_f86c9 2 = .ok (.lcmp, 1) := by decide +kernel
theorem dr_cJ9_min_f86c9_3 : decode cJ9_min_f86c9 3 = .ok (.ifCond .gt 7, 3) := by decide +kernel
theorem dr_cJ9_min_f86c9_10 : decode cJ9_min_f86c9 10 = .ok (.lload_n 2, 1) := by decide +kernel
theorem dr_cJ9_min_f86c9_11 : decode cJ9_min_f86c9 11 = .ok (.lreturn, 1) := by decide +kernel
theorem dr_cJ9_min_f86c9_6 : decode cJ9_min_f86c9 6 = .ok (.lload_n 0, 1) := by decide +kernel
theorem dr_cJ9_min_f86c9_7 : decode cJ9_min_f86c9 7 = .ok (.goto 4, 3) := by decide +kernel
abbrev ky_667597_Integer_getChars : gKey := (cJ6_getChars_ba4f3, 7, "java/lang/Integer", (some FieldType.int), [], "getChars", fun _ _ => True)
def pp_667597_Integer_getChars (D : va_G) (I : FieldType → ClassId) (P667587 : List Nat) (F667588 : Nat → va_E) (q667589 : Nat) (p667590 : Int32) (p667591 : Int32) (f667592 : Nat → Int32) (n667593 : Nat) : Option Value → va_W → Nat → Nat → Prop := fun r w dc ds => ∃ (F667991 : Nat → va_E) (o667989 : Int32) (f667988 : Nat → Int32), r = some (.int o667989) ∧ w = va_pl P667587 F667991 ∧ rFr [q667589] P667587 F667588 F667991 ∧ F667991 q667589 = .inl (I .byte, n667593, .inl f667988) ∧ dc ≤ 0 ∧ ds ≤ 0 ∧ gB o667989 0 16777215 ∧ gF f667988 (-128) 127 ∧ tr_RInteger_getChars p667590 p667591 f667592 o667989 f667988
set_option maxRecDepth 100000 in
set_option maxHeartbeats 4000000 in
theorem cp_667597_Integer_getChars (l : Launch) (hl0 : l.stackTraces = false) (D : va_G) (I : FieldType → ClassId) (P667587 : List Nat) (F667588 : Nat → va_E) (q667589 : Nat) (p667590 : Int32) (p667591 : Int32) (f667592 : Nat → Int32) (n667593 : Nat) (hmq667589 : q667589 ∈ P667587) (heq667589 : F667588 q667589 = .inl (I .byte, n667593, .inl f667592)) (bp667591 : gB p667591 0 16777216) (bf667592 : gF f667592 (-128) 127) (x667594 : p667591.toInt ≤ (n667593 : Int)) (x667595 : dgS p667590.toInt p667591.toInt) (x667596 : ((n667593 : Int) ≤ 16777216)) : CtA (gV D I) l yJ6_getChars_ba4f3 cJ6_getChars_ba4f3 7 (some FieldType.int) 0 0 0 0 [.int p667590, .int p667591, .ref q667589] (va_pl P667587 F667588) (pp_667597_Integer_getChars D I P667587 F667588 q667589 p667590 p667591 f667592 n667593) gNA := by
  refine CtA_ofF hl0 (by decide +kernel) (Nat.le_of_ble_eq_true rfl) ?_
  have bp667590 := gB_any p667590
  refine G_iload_n 1 dr_cJ6_getChars_ba4f3_0 rfl ?_
  refine G_istore (L' := [(5, .int p667591), (0, .int p667590), (1, .int p667591), (2, .ref q667589)]) dr_cJ6_getChars_ba4f3_1 (Nat.le_of_ble_eq_true rfl) rfl ?_
  refine G_iload_n 1 dr_cJ6_getChars_ba4f3_3 rfl ?_
  refine G_if_ge 11 dr_cJ6_getChars_ba4f3_4 (by decide +kernel) (fun hc667598 => ?_) (fun hc667598 => ?_)
  · have r667599 : 0 ≤ p667590.toInt := gj_leL hc667598 (show Int32.toInt 0 = 0 by decide)
    have bp667590' : gB p667590 0 2147483647 := ⟨by omega, by omega⟩
    refine G_iconst 0 dr_cJ6_getChars_ba4f3_11 (by decide +kernel) ?_
    refine G_istore (L' := [(6, .int 0), (5, .int p667591), (0, .int p667590), (1, .int p667591), (2, .ref q667589)]) dr_cJ6_getChars_ba4f3_12 (Nat.le_of_ble_eq_true rfl) rfl ?_
    refine G_iload 0 dr_cJ6_getChars_ba4f3_14 rfl ?_
    refine G_if_ne 22 dr_cJ6_getChars_ba4f3_16 (by decide +kernel) (fun hc => absurd hc (by decide)) (fun _ => ?_)
    refine G_iload_n 2 dr_cJ6_getChars_ba4f3_19 rfl ?_
    refine G_ineg dr_cJ6_getChars_ba4f3_20 (G_nam fun z667600 hz667600 => ?_)
    have ez667600 : z667600.toInt = -p667590.toInt := gI_neg hz667600 bp667590' (by decide)
    have bz667600 : gB z667600 (-2147483647) 0 := ⟨by omega, by omega⟩
    refine G_istore_n (L' := [(0, .int z667600), (6, .int 0), (5, .int p667591), (1, .int p667591), (2, .ref q667589)]) dr_cJ6_getChars_ba4f3_21 (Nat.le_of_ble_eq_true rfl) rfl ?_
    have hlp22_667717 : ∀ (n22_667717 : Nat) (F667712 : Nat → va_E) (g667709 : Int32) (g667710 : Int32) (f667711 : Nat → Int32), gB g667709 (-2147483647) 0 → gB g667710 0 16777216 → gF f667711 (-128) 127 → rFr [q667589] P667587 F667588 F667712 → F667712 q667589 = .inl (I .byte, n667593, .inl f667711) → g667709.toInt ≤ 0 → dgB g667709.toInt (g667710.toInt - 0) → g667710.toInt ≤ p667591.toInt → (∀ (k : Nat) (e1 : Int32) (e2 : Int32) (e3 : Nat → Int32), tl_RInteger_getChars_22 g667709 g667710 f667711 k e1 e2 e3 → tl_RInteger_getChars_22 z667600 p667591 f667592 k e1 e2 e3) → (-g667709.toInt).toNat < n22_667717 → G (gV D I) l (gRm 0 0 0 0) (gMA (gV D I) (pp_667597_Integer_getChars D I P667587 F667588 q667589 p667590 p667591 f667592 n667593) gNA 0 0) ky_667597_Integer_getChars 22 [(0, .int g667709), (6, .int 0), (5, .int g667710), (1, .int p667591), (2, .ref q667589)] [] (va_pl P667587 F667712) 0 0 := by
      intro n22_667717
      induction n22_667717 with
      | zero => intro F667712 g667709 g667710 f667711 bg667709 bg667710 bf667711 hfr667714 he667713 x667715 x667716 x667717 kt22_667717 hm22_667717; exact absurd hm22_667717 (Nat.not_lt_zero _)
      | succ n22_667717 ih22_667717 =>
        intro F667712 g667709 g667710 f667711 bg667709 bg667710 bf667711 hfr667714 he667713 x667715 x667716 x667717 kt22_667717 hm22_667717
        refine G_iload_n 0 dr_cJ6_getChars_ba4f3_22 rfl ?_
        refine G_bipush (-100) dr_cJ6_getChars_ba4f3_23 (by decide +kernel) ?_
        refine G_icmp_gt 72 dr_cJ6_getChars_ba4f3_25 (by decide +kernel) (fun hc667718 => ?_) (fun hc667718 => ?_)
        · have r667719 : (-100) < g667709.toInt := gj_ltL hc667718 (show Int32.toInt (-100) = (-100) by decide)
          have bg667709' : gB g667709 (-99) 0 := ⟨by omega, by omega⟩
          have hx667720 : tl_RInteger_getChars_22 z667600 p667591 f667592 72 g667709 g667710 f667711 := kt22_667717 72 g667709 g667710 f667711 (fun R c1 c2 => c1 g667709 g667710 f667711 bg667709 bg667710 r667719)
          have x667721 : (1 : Int) ≤ (g667710.toInt - 0) := dgB_1 x667716
          refine G_aload_n 4 dr_cJ6_getChars_ba4f3_72 rfl ?_
          have bg667710' : gB g667710 1 16777216 := ⟨by omega, by omega⟩
          obtain ⟨z667722, hz667722⟩ : ∃ z : Int32, z = g667710 + Int32.ofInt (-1) := ⟨_, rfl⟩
          have ez667722 : z667722.toInt = g667710.toInt + (-1) := gI_inc hz667722 (by decide) bg667710' (by decide) (by decide)
          have bz667722 : gB z667722 0 16777215 := ⟨by omega, by omega⟩
          refine G_iinc (L' := [(5, .int z667722), (0, .int g667709), (6, .int 0), (1, .int p667591), (2, .ref q667589)]) z667722 2 dr_cJ6_getChars_ba4f3_73 rfl hz667722.symm (Nat.le_of_ble_eq_true rfl) rfl ?_
          refine G_iload 0 dr_cJ6_getChars_ba4f3_76 rfl ?_
          refine G_gets dr_cJ6_getChars_ba4f3_78 wr_8_118 gr_on (fun x667724 hx667723 => ?_)
          subst hx667723
          refine G_iload_n 1 dr_cJ6_getChars_ba4f3_81 rfl ?_
          refine G_ineg dr_cJ6_getChars_ba4f3_82 (G_nam fun z667725 hz667725 => ?_)
          have ez667725 : z667725.toInt = -g667709.toInt := gI_neg hz667725 bg667709' (by decide)
          have bz667725 : gB z667725 0 99 := ⟨by omega, by omega⟩
          refine G_kbald (f := dg_O) dr_cJ6_getChars_ba4f3_83 gr_ont (gB_inr (by omega) (by omega)) (G_nam fun z667726 hz667726 => ?_)
          have bz667726 : gB z667726 (-2147483648) 2147483647 := gB_any z667726
          refine Gp_bast 1 hmq667589 he667713 dr_cJ6_getChars_ba4f3_84 rfl (gB_inr (by omega) (by omega)) (fun F667727 e667728 n667729 => ?_)
          obtain ⟨f667730, hf667730⟩ : ∃ z, z = upd f667711 z667722.toNatClampNeg (vp_nar .byte z667726) := ⟨_, rfl⟩
          rw [← hf667730] at e667728
          have he667731 : F667727 q667589 = .inl (I .byte, n667593, .inl f667730) := e667728
          have hfr667732 : rFr [q667589] P667587 F667588 F667727 := rFr_put' List.mem_cons_self hfr667714 n667729
          have bf667730 : gF f667730 (-128) 127 := gF_upd hf667730 bf667711 gB_byte
          refine G_iload_n 1 dr_cJ6_getChars_ba4f3_85 rfl ?_
          refine G_bipush (-9) dr_cJ6_getChars_ba4f3_86 (by decide +kernel) ?_
          refine G_icmp_ge 104 dr_cJ6_getChars_ba4f3_88 (by decide +kernel) (fun hc667733 => ?_) (fun hc667733 => ?_)
          · have r667734 : (-9) ≤ g667709.toInt := gj_leL hc667733 (show Int32.toInt (-9) = (-9) by decide)
            have bg667709'' : gB g667709 (-9) 0 := ⟨by omega, by omega⟩
            refine G_iload 2 dr_cJ6_getChars_ba4f3_104 rfl ?_
            refine G_if_eq 118 dr_cJ6_getChars_ba4f3_106 (by decide +kernel) (fun _ => ?_) (fun hc => absurd hc (by decide))
            refine G_iload 0 dr_cJ6_getChars_ba4f3_118 rfl ?_
            exact G_iretA dr_cJ6_getChars_ba4f3_120 rfl (Nat.le_of_ble_eq_true rfl) (Nat.le_of_ble_eq_true rfl) ⟨F667727, z667722, f667730, rfl, rfl, hfr667732, he667731, (Nat.le_of_ble_eq_true rfl), (Nat.le_of_ble_eq_true rfl), bz667722, bf667730, (fun R c1 c2 c3 c4 => c1 z667600 g667709 g667710 f667711 z667722 z667725 z667726 f667730 r667599 hz667600 hx667720 ez667722 hz667725 hz667726 hf667730 r667734)⟩
          · have r667735 : g667709.toInt < (-9) := gj_nleL hc667733 (show Int32.toInt (-9) = (-9) by decide)
            have bg667709'' : gB g667709 (-99) (-10) := ⟨by omega, by omega⟩
            have x667736 : (2 : Int) ≤ (g667710.toInt - 0) := dgB_2 x667716 (by omega)
            refine G_aload_n 4 dr_cJ6_getChars_ba4f3_91 rfl ?_
            have bz667722' : gB z667722 1 16777215 := ⟨by omega, by omega⟩
            obtain ⟨z667737, hz667737⟩ : ∃ z : Int32, z = z667722 + Int32.ofInt (-1) := ⟨_, rfl⟩
            have ez667737 : z667737.toInt = z667722.toInt + (-1) := gI_inc hz667737 (by decide) bz667722' (by decide) (by decide)
            have bz667737 : gB z667737 0 16777214 := ⟨by omega, by omega⟩
            refine G_iinc (L' := [(5, .int z667737), (0, .int g667709), (6, .int 0), (1, .int p667591), (2, .ref q667589)]) z667737 0 dr_cJ6_getChars_ba4f3_92 rfl hz667737.symm (Nat.le_of_ble_eq_true rfl) rfl ?_
            refine G_iload 0 dr_cJ6_getChars_ba4f3_95 rfl ?_
            refine G_gets dr_cJ6_getChars_ba4f3_97 wr_8_120 gr_te (fun x667739 hx667738 => ?_)
            subst hx667738
            refine G_iload_n 1 dr_cJ6_getChars_ba4f3_100 rfl ?_
            refine G_ineg dr_cJ6_getChars_ba4f3_101 (G_nam fun z667740 hz667740 => ?_)
            have ez667740 : z667740.toInt = -g667709.toInt := gI_neg hz667740 bg667709'' (by decide)
            have bz667740 : gB z667740 10 99 := ⟨by omega, by omega⟩
            refine G_kbald (f := dg_T) dr_cJ6_getChars_ba4f3_102 gr_tet (gB_inr (by omega) (by omega)) (G_nam fun z667741 hz667741 => ?_)
            have bz667741 : gB z667741 (-2147483648) 2147483647 := gB_any z667741
            refine Gp_bast 1 hmq667589 he667731 dr_cJ6_getChars_ba4f3_103 rfl (gB_inr (by omega) (by omega)) (fun F667742 e667743 n667744 => ?_)
            obtain ⟨f667745, hf667745⟩ : ∃ z, z = upd f667730 z667737.toNatClampNeg (vp_nar .byte z667741) := ⟨_, rfl⟩
            rw [← hf667745] at e667743
            have he667746 : F667742 q667589 = .inl (I .byte, n667593, .inl f667745) := e667743
            have hfr667747 : rFr [q667589] P667587 F667588 F667742 := rFr_put' List.mem_cons_self hfr667732 n667744
            have bf667745 : gF f667745 (-128) 127 := gF_upd hf667745 bf667730 gB_byte
            refine G_iload 2 dr_cJ6_getChars_ba4f3_104 rfl ?_
            refine G_if_eq 118 dr_cJ6_getChars_ba4f3_106 (by decide +kernel) (fun _ => ?_) (fun hc => absurd hc (by decide))
            refine G_iload 0 dr_cJ6_getChars_ba4f3_118 rfl ?_
            exact G_iretA dr_cJ6_getChars_ba4f3_120 rfl (Nat.le_of_ble_eq_true rfl) (Nat.le_of_ble_eq_true rfl) ⟨F667742, z667737, f667745, rfl, rfl, hfr667747, he667746, (Nat.le_of_ble_eq_true rfl), (Nat.le_of_ble_eq_true rfl), (gB_w bz667737 (by decide) (by decide)), bf667745, (fun R c1 c2 c3 c4 => c2 z667600 g667709 g667710 f667711 z667722 z667725 z667726 f667730 z667737 z667740 z667741 f667745 r667599 hz667600 hx667720 ez667722 hz667725 hz667726 hf667730 r667735 ez667737 hz667740 hz667741 hf667745)⟩
        · have r667748 : g667709.toInt ≤ (-100) := gj_nltL hc667718 (show Int32.toInt (-100) = (-100) by decide)
          have bg667709' : gB g667709 (-2147483647) (-100) := ⟨by omega, by omega⟩
          have x667749 : (3 : Int) ≤ (g667710.toInt - 0) := dgB_3 x667716 (by omega)
          refine G_iload_n 0 dr_cJ6_getChars_ba4f3_28 rfl ?_
          refine G_bipush 100 dr_cJ6_getChars_ba4f3_29 (by decide +kernel) ?_
          refine G_idiv dr_cJ6_getChars_ba4f3_31 (by decide) (G_nam fun z667750 hz667750 => ?_)
          have ez667750 : z667750.toInt = -((-g667709.toInt) / 100) := gI_divn hz667750 bg667709' (by decide) (by decide) (by decide)
          have bz667750 : gB z667750 (-21474836) (-1) := ⟨by omega, by omega⟩
          refine G_istore_n (L' := [(3, .int z667750), (0, .int g667709), (6, .int 0), (5, .int g667710), (1, .int p667591), (2, .ref q667589)]) dr_cJ6_getChars_ba4f3_32 (Nat.le_of_ble_eq_true rfl) rfl ?_
          refine G_iload_n 0 dr_cJ6_getChars_ba4f3_33 rfl ?_
          refine G_bipush 100 dr_cJ6_getChars_ba4f3_34 (by decide +kernel) ?_
          refine G_imul dr_cJ6_getChars_ba4f3_36 (G_nam fun z667751 hz667751 => ?_)
          have ez667751 : z667751.toInt = z667750.toInt * 100 := gI_mulK hz667751 (by decide) (by omega) (by omega)
          have bz667751 : gB z667751 (-2147483600) (-100) := ⟨by omega, by omega⟩
          refine G_iload_n 1 dr_cJ6_getChars_ba4f3_37 rfl ?_
          refine G_isub dr_cJ6_getChars_ba4f3_38 (G_nam fun z667752 hz667752 => ?_)
          have ez667752 : z667752.toInt = z667751.toInt - g667709.toInt := by rw [gI_sub hz667752 bz667751 bg667709' (by decide) (by decide)]
          have bz667752 : gB z667752 (-2147483500) 2147483547 := gB_sub (gI_sub hz667752 bz667751 bg667709' (by decide) (by decide)) bz667751 bg667709' (by decide) (by decide)
          refine G_istore (L' := [(4, .int z667752), (3, .int z667750), (0, .int g667709), (6, .int 0), (5, .int g667710), (1, .int p667591), (2, .ref q667589)]) dr_cJ6_getChars_ba4f3_39 (Nat.le_of_ble_eq_true rfl) rfl ?_
          refine G_iload_n 1 dr_cJ6_getChars_ba4f3_41 rfl ?_
          refine G_istore_n (L' := [(0, .int z667750), (4, .int z667752), (3, .int z667750), (6, .int 0), (5, .int g667710), (1, .int p667591), (2, .ref q667589)]) dr_cJ6_getChars_ba4f3_42 (Nat.le_of_ble_eq_true rfl) rfl ?_
          refine G_aload_n 6 dr_cJ6_getChars_ba4f3_43 rfl ?_
          have bg667710' : gB g667710 2 16777216 := ⟨by omega, by omega⟩
          obtain ⟨z667753, hz667753⟩ : ∃ z : Int32, z = g667710 + Int32.ofInt (-1) := ⟨_, rfl⟩
          have ez667753 : z667753.toInt = g667710.toInt + (-1) := gI_inc hz667753 (by decide) bg667710' (by decide) (by decide)
          have bz667753 : gB z667753 1 16777215 := ⟨by omega, by omega⟩
          refine G_iinc (L' := [(5, .int z667753), (0, .int z667750), (4, .int z667752), (3, .int z667750), (6, .int 0), (1, .int p667591), (2, .ref q667589)]) z667753 4 dr_cJ6_getChars_ba4f3_44 rfl hz667753.symm (Nat.le_of_ble_eq_true rfl) rfl ?_
          refine G_iload 0 dr_cJ6_getChars_ba4f3_47 rfl ?_
          refine G_gets dr_cJ6_getChars_ba4f3_49 wr_8_118 gr_on (fun x667755 hx667754 => ?_)
          subst hx667754
          refine G_iload 2 dr_cJ6_getChars_ba4f3_52 rfl ?_
          refine G_kbald (f := dg_O) dr_cJ6_getChars_ba4f3_54 gr_ont (gB_inr (by omega) (by omega)) (G_nam fun z667756 hz667756 => ?_)
          have bz667756 : gB z667756 (-2147483648) 2147483647 := gB_any z667756
          refine Gp_bast 1 hmq667589 he667713 dr_cJ6_getChars_ba4f3_55 rfl (gB_inr (by omega) (by omega)) (fun F667757 e667758 n667759 => ?_)
          obtain ⟨f667760, hf667760⟩ : ∃ z, z = upd f667711 z667753.toNatClampNeg (vp_nar .byte z667756) := ⟨_, rfl⟩
          rw [← hf667760] at e667758
          have he667761 : F667757 q667589 = .inl (I .byte, n667593, .inl f667760) := e667758
          have hfr667762 : rFr [q667589] P667587 F667588 F667757 := rFr_put' List.mem_cons_self hfr667714 n667759
          have bf667760 : gF f667760 (-128) 127 := gF_upd hf667760 bf667711 gB_byte
          refine G_aload_n 6 dr_cJ6_getChars_ba4f3_56 rfl ?_
          obtain ⟨z667763, hz667763⟩ : ∃ z : Int32, z = z667753 + Int32.ofInt (-1) := ⟨_, rfl⟩
          have ez667763 : z667763.toInt = z667753.toInt + (-1) := gI_inc hz667763 (by decide) bz667753 (by decide) (by decide)
          have bz667763 : gB z667763 0 16777214 := ⟨by omega, by omega⟩
          refine G_iinc (L' := [(5, .int z667763), (0, .int z667750), (4, .int z667752), (3, .int z667750), (6, .int 0), (1, .int p667591), (2, .ref q667589)]) z667763 0 dr_cJ6_getChars_ba4f3_57 rfl hz667763.symm (Nat.le_of_ble_eq_true rfl) rfl ?_
          refine G_iload 0 dr_cJ6_getChars_ba4f3_60 rfl ?_
          refine G_gets dr_cJ6_getChars_ba4f3_62 wr_8_120 gr_te (fun x667765 hx667764 => ?_)
          subst hx667764
          refine G_iload 2 dr_cJ6_getChars_ba4f3_65 rfl ?_
          refine G_kbald (f := dg_T) dr_cJ6_getChars_ba4f3_67 gr_tet (gB_inr (by omega) (by omega)) (G_nam fun z667766 hz667766 => ?_)
          have bz667766 : gB z667766 (-2147483648) 2147483647 := gB_any z667766
          refine Gp_bast 1 hmq667589 he667761 dr_cJ6_getChars_ba4f3_68 rfl (gB_inr (by omega) (by omega)) (fun F667767 e667768 n667769 => ?_)
          obtain ⟨f667770, hf667770⟩ : ∃ z, z = upd f667760 z667763.toNatClampNeg (vp_nar .byte z667766) := ⟨_, rfl⟩
          rw [← hf667770] at e667768
          have he667771 : F667767 q667589 = .inl (I .byte, n667593, .inl f667770) := e667768
          have hfr667772 : rFr [q667589] P667587 F667588 F667767 := rFr_put' List.mem_cons_self hfr667762 n667769
          have bf667770 : gF f667770 (-128) 127 := gF_upd hf667770 bf667760 gB_byte
          refine G_goto 22 dr_cJ6_getChars_ba4f3_69 (by decide +kernel) ?_
          refine G_lv (L' := [(0, .int z667750), (6, .int 0), (5, .int z667763), (1, .int p667591), (2, .ref q667589)]) [1, 4, 0, 5, 6] rfl ?_
          exact ih22_667717 F667767 z667750 z667763 f667770 (gB_w bz667750 (by decide) (by decide)) (gB_w bz667763 (by decide) (by decide)) bf667770 hfr667772 he667771 (by have qa0 : Int32.toInt 0 = 0 := (by decide); omega) (by have q10 : Int32.toInt 10 = 10 := (by decide); have q11 : Int32.toInt 11 = 11 := (by decide); first | exact dgB_up (dgS_ip x667595 (by omega) (by omega)) (by omega) (by omega) | exact dgB_up (dgS_in x667595 (by omega)) (by omega) (by omega) | exact dgB_up x667716 (by omega) (by omega) | exact dgB_up (dgB_st x667716 (by omega) (by omega) (by omega)) (by omega) (by omega)) (by have qa0 : Int32.toInt 0 = 0 := (by decide); omega) (fun k e1 e2 e3 ht => kt22_667717 k e1 e2 e3 (fun R c1 c2 => c2 g667709 g667710 f667711 z667750 z667751 z667752 z667753 z667756 f667760 z667763 z667766 f667770 k e1 e2 e3 bg667709 bg667710 r667748 ez667750 ez667751 ez667752 ez667753 hz667756 hf667760 ez667763 hz667766 hf667770 (ht R c1 c2))) (by have qa0 : Int32.toInt 0 = 0 := (by decide); omega)
    exact hlp22_667717 ((-z667600.toInt).toNat + 1) F667588 z667600 p667591 f667592 bz667600 bp667591 bf667592 (rFr_v (rFr_rf (W := []) (P := P667587) (F := F667588)) (fun b hn => nm_n)) heq667589 (by have qa0 : Int32.toInt 0 = 0 := (by decide); omega) (by have q10 : Int32.toInt 10 = 10 := (by decide); have q11 : Int32.toInt 11 = 11 := (by decide); first | exact dgB_up (dgS_ip x667595 (by omega) (by omega)) (by omega) (by omega) | exact dgB_up (dgS_in x667595 (by omega)) (by omega) (by omega)) (by have qa0 : Int32.toInt 0 = 0 := (by decide); omega) (fun k e1 e2 e3 ht => ht) (Nat.lt_succ_self _)
  · have r667773 : p667590.toInt < 0 := gj_nleL hc667598 (show Int32.toInt 0 = 0 by decide)
    have bp667590' : gB p667590 (-2147483648) (-1) := ⟨by omega, by omega⟩
    refine G_iconst 1 dr_cJ6_getChars_ba4f3_7 (by decide +kernel) ?_
    refine G_goto 12 dr_cJ6_getChars_ba4f3_8 (by decide +kernel) ?_
    refine G_istore (L' := [(6, .int 1), (5, .int p667591), (0, .int p667590), (1, .int p667591), (2, .ref q667589)]) dr_cJ6_getChars_ba4f3_12 (Nat.le_of_ble_eq_true rfl) rfl ?_
    refine G_iload 0 dr_cJ6_getChars_ba4f3_14 rfl ?_
    refine G_if_ne 22 dr_cJ6_getChars_ba4f3_16 (by decide +kernel) (fun _ => ?_) (fun hc => absurd hc (by decide))
    have hlp22_667918 : ∀ (n22_667918 : Nat) (F667913 : Nat → va_E) (g667910 : Int32) (g667911 : Int32) (f667912 : Nat → Int32), gB g667910 0 16777216 → gB g667911 (-2147483648) (-1) → gF f667912 (-128) 127 → rFr [q667589] P667587 F667588 F667913 → F667913 q667589 = .inl (I .byte, n667593, .inl f667912) → g667911.toInt ≤ 0 → dgB g667911.toInt (g667910.toInt - 1) → g667910.toInt ≤ p667591.toInt → (∀ (k : Nat) (e1 : Int32) (e2 : Int32) (e3 : Nat → Int32), tl_RInteger_getChars_22_2 g667910 g667911 f667912 k e1 e2 e3 → tl_RInteger_getChars_22_2 p667591 p667590 f667592 k e1 e2 e3) → (-g667911.toInt).toNat < n22_667918 → G (gV D I) l (gRm 0 0 0 0) (gMA (gV D I) (pp_667597_Integer_getChars D I P667587 F667588 q667589 p667590 p667591 f667592 n667593) gNA 0 0) ky_667597_Integer_getChars 22 [(6, .int 1), (5, .int g667910), (0, .int g667911), (1, .int p667591), (2, .ref q667589)] [] (va_pl P667587 F667913) 0 0 := by
      intro n22_667918
      induction n22_667918 with
      | zero => intro F667913 g667910 g667911 f667912 bg667910 bg667911 bf667912 hfr667915 he667914 x667916 x667917 x667918 kt22_667918 hm22_667918; exact absurd hm22_667918 (Nat.not_lt_zero _)
      | succ n22_667918 ih22_667918 =>
        intro F667913 g667910 g667911 f667912 bg667910 bg667911 bf667912 hfr667915 he667914 x667916 x667917 x667918 kt22_667918 hm22_667918
        refine G_iload_n 2 dr_cJ6_getChars_ba4f3_22 rfl ?_
        refine G_bipush (-100) dr_cJ6_getChars_ba4f3_23 (by decide +kernel) ?_
        refine G_icmp_gt 72 dr_cJ6_getChars_ba4f3_25 (by decide +kernel) (fun hc667919 => ?_) (fun hc667919 => ?_)
        · have r667920 : (-100) < g667911.toInt := gj_ltL hc667919 (show Int32.toInt (-100) = (-100) by decide)
          have bg667911' : gB g667911 (-99) (-1) := ⟨by omega, by omega⟩
          have hx667921 : tl_RInteger_getChars_22_2 p667591 p667590 f667592 72 g667910 g667911 f667912 := kt22_667918 72 g667910 g667911 f667912 (fun R c1 c2 => c1 g667910 g667911 f667912 bg667910 bg667911 r667920)
          have x667922 : (1 : Int) ≤ (g667910.toInt - 1) := dgB_1 x667917
          refine G_aload_n 4 dr_cJ6_getChars_ba4f3_72 rfl ?_
          have bg667910' : gB g667910 1 16777216 := ⟨by omega, by omega⟩
          obtain ⟨z667923, hz667923⟩ : ∃ z : Int32, z = g667910 + Int32.ofInt (-1) := ⟨_, rfl⟩
          have ez667923 : z667923.toInt = g667910.toInt + (-1) := gI_inc hz667923 (by decide) bg667910' (by decide) (by decide)
          have bz667923 : gB z667923 0 16777215 := ⟨by omega, by omega⟩
          refine G_iinc (L' := [(5, .int z667923), (6, .int 1), (0, .int g667911), (1, .int p667591), (2, .ref q667589)]) z667923 1 dr_cJ6_getChars_ba4f3_73 rfl hz667923.symm (Nat.le_of_ble_eq_true rfl) rfl ?_
          refine G_iload 0 dr_cJ6_getChars_ba4f3_76 rfl ?_
          refine G_gets dr_cJ6_getChars_ba4f3_78 wr_8_118 gr_on (fun x667925 hx667924 => ?_)
          subst hx667924
          refine G_iload_n 2 dr_cJ6_getChars_ba4f3_81 rfl ?_
          refine G_ineg dr_cJ6_getChars_ba4f3_82 (G_nam fun z667926 hz667926 => ?_)
          have ez667926 : z667926.toInt = -g667911.toInt := gI_neg hz667926 bg667911' (by decide)
          have bz667926 : gB z667926 1 99 := ⟨by omega, by omega⟩
          refine G_kbald (f := dg_O) dr_cJ6_getChars_ba4f3_83 gr_ont (gB_inr (by omega) (by omega)) (G_nam fun z667927 hz667927 => ?_)
          have bz667927 : gB z667927 (-2147483648) 2147483647 := gB_any z667927
          refine Gp_bast 1 hmq667589 he667914 dr_cJ6_getChars_ba4f3_84 rfl (gB_inr (by omega) (by omega)) (fun F667928 e667929 n667930 => ?_)
          obtain ⟨f667931, hf667931⟩ : ∃ z, z = upd f667912 z667923.toNatClampNeg (vp_nar .byte z667927) := ⟨_, rfl⟩
          rw [← hf667931] at e667929
          have he667932 : F667928 q667589 = .inl (I .byte, n667593, .inl f667931) := e667929
          have hfr667933 : rFr [q667589] P667587 F667588 F667928 := rFr_put' List.mem_cons_self hfr667915 n667930
          have bf667931 : gF f667931 (-128) 127 := gF_upd hf667931 bf667912 gB_byte
          refine G_iload_n 2 dr_cJ6_getChars_ba4f3_85 rfl ?_
          refine G_bipush (-9) dr_cJ6_getChars_ba4f3_86 (by decide +kernel) ?_
          refine G_icmp_ge 104 dr_cJ6_getChars_ba4f3_88 (by decide +kernel) (fun hc667934 => ?_) (fun hc667934 => ?_)
          · have r667935 : (-9) ≤ g667911.toInt := gj_leL hc667934 (show Int32.toInt (-9) = (-9) by decide)
            have bg667911'' : gB g667911 (-9) (-1) := ⟨by omega, by omega⟩
            refine G_iload 1 dr_cJ6_getChars_ba4f3_104 rfl ?_
            refine G_if_eq 118 dr_cJ6_getChars_ba4f3_106 (by decide +kernel) (fun hc => absurd hc (by decide)) (fun _ => ?_)
            refine G_aload_n 4 dr_cJ6_getChars_ba4f3_109 rfl ?_
            have bz667923' : gB z667923 1 16777215 := ⟨by omega, by omega⟩
            obtain ⟨z667936, hz667936⟩ : ∃ z : Int32, z = z667923 + Int32.ofInt (-1) := ⟨_, rfl⟩
            have ez667936 : z667936.toInt = z667923.toInt + (-1) := gI_inc hz667936 (by decide) bz667923' (by decide) (by decide)
            have bz667936 : gB z667936 0 16777214 := ⟨by omega, by omega⟩
            refine G_iinc (L' := [(5, .int z667936), (6, .int 1), (0, .int g667911), (1, .int p667591), (2, .ref q667589)]) z667936 0 dr_cJ6_getChars_ba4f3_110 rfl hz667936.symm (Nat.le_of_ble_eq_true rfl) rfl ?_
            refine G_iload 0 dr_cJ6_getChars_ba4f3_113 rfl ?_
            refine G_bipush 45 dr_cJ6_getChars_ba4f3_115 (by decide +kernel) ?_
            refine Gp_bast 1 hmq667589 he667932 dr_cJ6_getChars_ba4f3_117 rfl (gB_inr (by omega) (by omega)) (fun F667937 e667938 n667939 => ?_)
            obtain ⟨f667940, hf667940⟩ : ∃ z, z = upd f667931 z667936.toNatClampNeg (vp_nar .byte 45) := ⟨_, rfl⟩
            rw [← hf667940] at e667938
            have he667941 : F667937 q667589 = .inl (I .byte, n667593, .inl f667940) := e667938
            have hfr667942 : rFr [q667589] P667587 F667588 F667937 := rFr_put' List.mem_cons_self hfr667933 n667939
            have bf667940 : gF f667940 (-128) 127 := gF_upd hf667940 bf667931 gB_byte
            refine G_iload 0 dr_cJ6_getChars_ba4f3_118 rfl ?_
            exact G_iretA dr_cJ6_getChars_ba4f3_120 rfl (Nat.le_of_ble_eq_true rfl) (Nat.le_of_ble_eq_true rfl) ⟨F667937, z667936, f667940, rfl, rfl, hfr667942, he667941, (Nat.le_of_ble_eq_true rfl), (Nat.le_of_ble_eq_true rfl), (gB_w bz667936 (by decide) (by decide)), bf667940, (fun R c1 c2 c3 c4 => c3 g667910 g667911 f667912 z667923 z667926 z667927 f667931 z667936 f667940 r667773 hx667921 ez667923 hz667926 hz667927 hf667931 r667935 ez667936 hf667940)⟩
          · have r667943 : g667911.toInt < (-9) := gj_nleL hc667934 (show Int32.toInt (-9) = (-9) by decide)
            have bg667911'' : gB g667911 (-99) (-10) := ⟨by omega, by omega⟩
            have x667944 : (2 : Int) ≤ (g667910.toInt - 1) := dgB_2 x667917 (by omega)
            refine G_aload_n 4 dr_cJ6_getChars_ba4f3_91 rfl ?_
            have bz667923' : gB z667923 1 16777215 := ⟨by omega, by omega⟩
            obtain ⟨z667945, hz667945⟩ : ∃ z : Int32, z = z667923 + Int32.ofInt (-1) := ⟨_, rfl⟩
            have ez667945 : z667945.toInt = z667923.toInt + (-1) := gI_inc hz667945 (by decide) bz667923' (by decide) (by decide)
            have bz667945 : gB z667945 0 16777214 := ⟨by omega, by omega⟩
            refine G_iinc (L' := [(5, .int z667945), (6, .int 1), (0, .int g667911), (1, .int p667591), (2, .ref q667589)]) z667945 0 dr_cJ6_getChars_ba4f3_92 rfl hz667945.symm (Nat.le_of_ble_eq_true rfl) rfl ?_
            refine G_iload 0 dr_cJ6_getChars_ba4f3_95 rfl ?_
            refine G_gets dr_cJ6_getChars_ba4f3_97 wr_8_120 gr_te (fun x667947 hx667946 => ?_)
            subst hx667946
            refine G_iload_n 2 dr_cJ6_getChars_ba4f3_100 rfl ?_
            refine G_ineg dr_cJ6_getChars_ba4f3_101 (G_nam fun z667948 hz667948 => ?_)
            have ez667948 : z667948.toInt = -g667911.toInt := gI_neg hz667948 bg667911'' (by decide)
            have bz667948 : gB z667948 10 99 := ⟨by omega, by omega⟩
            refine G_kbald (f := dg_T) dr_cJ6_getChars_ba4f3_102 gr_tet (gB_inr (by omega) (by omega)) (G_nam fun z667949 hz667949 => ?_)
            have bz667949 : gB z667949 (-2147483648) 2147483647 := gB_any z667949
            refine Gp_bast 1 hmq667589 he667932 dr_cJ6_getChars_ba4f3_103 rfl (gB_inr (by omega) (by omega)) (fun F667950 e667951 n667952 => ?_)
            obtain ⟨f667953, hf667953⟩ : ∃ z, z = upd f667931 z667945.toNatClampNeg (vp_nar .byte z667949) := ⟨_, rfl⟩
            rw [← hf667953] at e667951
            have he667954 : F667950 q667589 = .inl (I .byte, n667593, .inl f667953) := e667951
            have hfr667955 : rFr [q667589] P667587 F667588 F667950 := rFr_put' List.mem_cons_self hfr667933 n667952
            have bf667953 : gF f667953 (-128) 127 := gF_upd hf667953 bf667931 gB_byte
            refine G_iload 1 dr_cJ6_getChars_ba4f3_104 rfl ?_
            refine G_if_eq 118 dr_cJ6_getChars_ba4f3_106 (by decide +kernel) (fun hc => absurd hc (by decide)) (fun _ => ?_)
            refine G_aload_n 4 dr_cJ6_getChars_ba4f3_109 rfl ?_
            have bz667945' : gB z667945 1 16777214 := ⟨by omega, by omega⟩
            obtain ⟨z667956, hz667956⟩ : ∃ z : Int32, z = z667945 + Int32.ofInt (-1) := ⟨_, rfl⟩
            have ez667956 : z667956.toInt = z667945.toInt + (-1) := gI_inc hz667956 (by decide) bz667945' (by decide) (by decide)
            have bz667956 : gB z667956 0 16777213 := ⟨by omega, by omega⟩
            refine G_iinc (L' := [(5, .int z667956), (6, .int 1), (0, .int g667911), (1, .int p667591), (2, .ref q667589)]) z667956 0 dr_cJ6_getChars_ba4f3_110 rfl hz667956.symm (Nat.le_of_ble_eq_true rfl) rfl ?_
            refine G_iload 0 dr_cJ6_getChars_ba4f3_113 rfl ?_
            refine G_bipush 45 dr_cJ6_getChars_ba4f3_115 (by decide +kernel) ?_
            refine Gp_bast 1 hmq667589 he667954 dr_cJ6_getChars_ba4f3_117 rfl (gB_inr (by omega) (by omega)) (fun F667957 e667958 n667959 => ?_)
            obtain ⟨f667960, hf667960⟩ : ∃ z, z = upd f667953 z667956.toNatClampNeg (vp_nar .byte 45) := ⟨_, rfl⟩
            rw [← hf667960] at e667958
            have he667961 : F667957 q667589 = .inl (I .byte, n667593, .inl f667960) := e667958
            have hfr667962 : rFr [q667589] P667587 F667588 F667957 := rFr_put' List.mem_cons_self hfr667955 n667959
            have bf667960 : gF f667960 (-128) 127 := gF_upd hf667960 bf667953 gB_byte
            refine G_iload 0 dr_cJ6_getChars_ba4f3_118 rfl ?_
            exact G_iretA dr_cJ6_getChars_ba4f3_120 rfl (Nat.le_of_ble_eq_true rfl) (Nat.le_of_ble_eq_true rfl) ⟨F667957, z667956, f667960, rfl, rfl, hfr667962, he667961, (Nat.le_of_ble_eq_true rfl), (Nat.le_of_ble_eq_true rfl), (gB_w bz667956 (by decide) (by decide)), bf667960, (fun R c1 c2 c3 c4 => c4 g667910 g667911 f667912 z667923 z667926 z667927 f667931 z667945 z667948 z667949 f667953 z667956 f667960 r667773 hx667921 ez667923 hz667926 hz667927 hf667931 r667943 ez667945 hz667948 hz667949 hf667953 ez667956 hf667960)⟩
        · have r667963 : g667911.toInt ≤ (-100) := gj_nltL hc667919 (show Int32.toInt (-100) = (-100) by decide)
          have bg667911' : gB g667911 (-2147483648) (-100) := ⟨by omega, by omega⟩
          have x667964 : (3 : Int) ≤ (g667910.toInt - 1) := dgB_3 x667917 (by omega)
          refine G_iload_n 2 dr_cJ6_getChars_ba4f3_28 rfl ?_
          refine G_bipush 100 dr_cJ6_getChars_ba4f3_29 (by decide +kernel) ?_
          refine G_idiv dr_cJ6_getChars_ba4f3_31 (by decide) (G_nam fun z667965 hz667965 => ?_)
          have ez667965 : z667965.toInt = -((-g667911.toInt) / 100) := gI_divn hz667965 bg667911' (by decide) (by decide) (by decide)
          have bz667965 : gB z667965 (-21474836) (-1) := ⟨by omega, by omega⟩
          refine G_istore_n (L' := [(3, .int z667965), (6, .int 1), (5, .int g667910), (0, .int g667911), (1, .int p667591), (2, .ref q667589)]) dr_cJ6_getChars_ba4f3_32 (Nat.le_of_ble_eq_true rfl) rfl ?_
          refine G_iload_n 0 dr_cJ6_getChars_ba4f3_33 rfl ?_
          refine G_bipush 100 dr_cJ6_getChars_ba4f3_34 (by decide +kernel) ?_
          refine G_imul dr_cJ6_getChars_ba4f3_36 (G_nam fun z667966 hz667966 => ?_)
          have ez667966 : z667966.toInt = z667965.toInt * 100 := gI_mulK hz667966 (by decide) (by omega) (by omega)
          have bz667966 : gB z667966 (-2147483600) (-100) := ⟨by omega, by omega⟩
          refine G_iload_n 3 dr_cJ6_getChars_ba4f3_37 rfl ?_
          refine G_isub dr_cJ6_getChars_ba4f3_38 (G_nam fun z667967 hz667967 => ?_)
          have ez667967 : z667967.toInt = z667966.toInt - g667911.toInt := by rw [gI_sub hz667967 bz667966 bg667911' (by decide) (by decide)]
          have bz667967 : gB z667967 (-2147483500) 2147483548 := gB_sub (gI_sub hz667967 bz667966 bg667911' (by decide) (by decide)) bz667966 bg667911' (by decide) (by decide)
          refine G_istore (L' := [(4, .int z667967), (3, .int z667965), (6, .int 1), (5, .int g667910), (0, .int g667911), (1, .int p667591), (2, .ref q667589)]) dr_cJ6_getChars_ba4f3_39 (Nat.le_of_ble_eq_true rfl) rfl ?_
          refine G_iload_n 1 dr_cJ6_getChars_ba4f3_41 rfl ?_
          refine G_istore_n (L' := [(0, .int z667965), (4, .int z667967), (3, .int z667965), (6, .int 1), (5, .int g667910), (1, .int p667591), (2, .ref q667589)]) dr_cJ6_getChars_ba4f3_42 (Nat.le_of_ble_eq_true rfl) rfl ?_
          refine G_aload_n 6 dr_cJ6_getChars_ba4f3_43 rfl ?_
          have bg667910' : gB g667910 2 16777216 := ⟨by omega, by omega⟩
          obtain ⟨z667968, hz667968⟩ : ∃ z : Int32, z = g667910 + Int32.ofInt (-1) := ⟨_, rfl⟩
          have ez667968 : z667968.toInt = g667910.toInt + (-1) := gI_inc hz667968 (by decide) bg667910' (by decide) (by decide)
          have bz667968 : gB z667968 1 16777215 := ⟨by omega, by omega⟩
          refine G_iinc (L' := [(5, .int z667968), (0, .int z667965), (4, .int z667967), (3, .int z667965), (6, .int 1), (1, .int p667591), (2, .ref q667589)]) z667968 4 dr_cJ6_getChars_ba4f3_44 rfl hz667968.symm (Nat.le_of_ble_eq_true rfl) rfl ?_
          refine G_iload 0 dr_cJ6_getChars_ba4f3_47 rfl ?_
          refine G_gets dr_cJ6_getChars_ba4f3_49 wr_8_118 gr_on (fun x667970 hx667969 => ?_)
          subst hx667969
          refine G_iload 2 dr_cJ6_getChars_ba4f3_52 rfl ?_
          refine G_kbald (f := dg_O) dr_cJ6_getChars_ba4f3_54 gr_ont (gB_inr (by omega) (by omega)) (G_nam fun z667971 hz667971 => ?_)
          have bz667971 : gB z667971 (-2147483648) 2147483647 := gB_any z667971
          refine Gp_bast 1 hmq667589 he667914 dr_cJ6_getChars_ba4f3_55 rfl (gB_inr (by omega) (by omega)) (fun F667972 e667973 n667974 => ?_)
          obtain ⟨f667975, hf667975⟩ : ∃ z, z = upd f667912 z667968.toNatClampNeg (vp_nar .byte z667971) := ⟨_, rfl⟩
          rw [← hf667975] at e667973
          have he667976 : F667972 q667589 = .inl (I .byte, n667593, .inl f667975) := e667973
          have hfr667977 : rFr [q667589] P667587 F667588 F667972 := rFr_put' List.mem_cons_self hfr667915 n667974
          have bf667975 : gF f667975 (-128) 127 := gF_upd hf667975 bf667912 gB_byte
          refine G_aload_n 6 dr_cJ6_getChars_ba4f3_56 rfl ?_
          obtain ⟨z667978, hz667978⟩ : ∃ z : Int32, z = z667968 + Int32.ofInt (-1) := ⟨_, rfl⟩
          have ez667978 : z667978.toInt = z667968.toInt + (-1) := gI_inc hz667978 (by decide) bz667968 (by decide) (by decide)
          have bz667978 : gB z667978 0 16777214 := ⟨by omega, by omega⟩
          refine G_iinc (L' := [(5, .int z667978), (0, .int z667965), (4, .int z667967), (3, .int z667965), (6, .int 1), (1, .int p667591), (2, .ref q667589)]) z667978 0 dr_cJ6_getChars_ba4f3_57 rfl hz667978.symm (Nat.le_of_ble_eq_true rfl) rfl ?_
          refine G_iload 0 dr_cJ6_getChars_ba4f3_60 rfl ?_
          refine G_gets dr_cJ6_getChars_ba4f3_62 wr_8_120 gr_te (fun x667980 hx667979 => ?_)
          subst hx667979
          refine G_iload 2 dr_cJ6_getChars_ba4f3_65 rfl ?_
          refine G_kbald (f := dg_T) dr_cJ6_getChars_ba4f3_67 gr_tet (gB_inr (by omega) (by omega)) (G_nam fun z667981 hz667981 => ?_)
          have bz667981 : gB z667981 (-2147483648) 2147483647 := gB_any z667981
          refine Gp_bast 1 hmq667589 he667976 dr_cJ6_getChars_ba4f3_68 rfl (gB_inr (by omega) (by omega)) (fun F667982 e667983 n667984 => ?_)
          obtain ⟨f667985, hf667985⟩ : ∃ z, z = upd f667975 z667978.toNatClampNeg (vp_nar .byte z667981) := ⟨_, rfl⟩
          rw [← hf667985] at e667983
          have he667986 : F667982 q667589 = .inl (I .byte, n667593, .inl f667985) := e667983
          have hfr667987 : rFr [q667589] P667587 F667588 F667982 := rFr_put' List.mem_cons_self hfr667977 n667984
          have bf667985 : gF f667985 (-128) 127 := gF_upd hf667985 bf667975 gB_byte
          refine G_goto 22 dr_cJ6_getChars_ba4f3_69 (by decide +kernel) ?_
          refine G_lv (L' := [(6, .int 1), (5, .int z667978), (0, .int z667965), (1, .int p667591), (2, .ref q667589)]) [4, 0, 1, 5, 6] rfl ?_
          exact ih22_667918 F667982 z667978 z667965 f667985 (gB_w bz667978 (by decide) (by decide)) (gB_w bz667965 (by decide) (by decide)) bf667985 hfr667987 he667986 (by have qa0 : Int32.toInt 1 = 1 := (by decide); omega) (by have q10 : Int32.toInt 10 = 10 := (by decide); have q11 : Int32.toInt 11 = 11 := (by decide); first | exact dgB_up (dgS_ip x667595 (by omega) (by omega)) (by omega) (by omega) | exact dgB_up (dgS_in x667595 (by omega)) (by omega) (by omega) | exact dgB_up x667917 (by omega) (by omega) | exact dgB_up (dgB_st x667917 (by omega) (by omega) (by omega)) (by omega) (by omega)) (by have qa0 : Int32.toInt 1 = 1 := (by decide); omega) (fun k e1 e2 e3 ht => kt22_667918 k e1 e2 e3 (fun R c1 c2 => c2 g667910 g667911 f667912 z667965 z667966 z667967 z667968 z667971 f667975 z667978 z667981 f667985 k e1 e2 e3 bg667910 bg667911 r667963 ez667965 ez667966 ez667967 ez667968 hz667971 hf667975 ez667978 hz667981 hf667985 (ht R c1 c2))) (by have qa0 : Int32.toInt 1 = 1 := (by decide); omega)
    exact hlp22_667918 ((-p667590.toInt).toNat + 1) F667588 p667591 p667590 f667592 bp667591 bp667590' bf667592 (rFr_v (rFr_rf (W := []) (P := P667587) (F := F667588)) (fun b hn => nm_n)) heq667589 (by have qa0 : Int32.toInt 1 = 1 := (by decide); omega) (by have q10 : Int32.toInt 10 = 10 := (by decide); have q11 : Int32.toInt 11 = 11 := (by decide); first | exact dgB_up (dgS_ip x667595 (by omega) (by omega)) (by omega) (by omega) | exact dgB_up (dgS_in x667595 (by omega)) (by omega) (by omega)) (by have qa0 : Int32.toInt 1 = 1 := (by decide); omega) (fun k e1 e2 e3 ht => ht) (Nat.lt_succ_self _)
/- tr_RAbstractStringBuilder_append7: a.0...count, a.0.value.#, a.0.value.[] -/
def tr_RAbstractStringBuilder_append7 (a1 : Int32) (a0_count : Int32) (a0_value_v : Nat → Int32) (a0_value_n : Nat) (o1 : Int32) (o2 : Nat) (o3 : Nat → Int32) : Prop := ∀ R : (Int32) → (Nat) → (Nat → Int32) → Prop,
  (∀ (x1 : Int32) (x2 : Int32) (x3 : Nat) (x4 : Nat → Int32) (x5 : Int32) (x6 : Nat → Int32), gB x1 1 11 → tr_RInteger_stringSize a1 x1 → x2.toInt = a0_count.toInt + x1.toInt → tr_RAbstractStringBuilder_ensureCapacityInternal2 x2 a0_value_v a0_value_n x3 x4 → gB x5 0 16777215 → tr_RInteger_getChars a1 x2 x4 x5 x6 → R x2 x3 x6) →
  R o1 o2 o3
abbrev ky_667410_AbstractStringBuilder_append : gKey := (cJ5_append_c97b9, 4, "java/lang/AbstractStringBuilder", (some (FieldType.object "java/lang/AbstractStringBuilder")), [], "append", fun _ _ => True)
def pp_667410_AbstractStringBuilder_append (D : va_G) (I : FieldType → ClassId) (P667398 : List Nat) (F667399 : Nat → va_E) (q667400 : Nat) (q667401 : Nat) (p667402 : Int32) (p667403 : Int32) (p667404 : Int32) (f667405 : Nat → Int32) (n667406 : Nat) : Option Value → va_W → Nat → Nat → Prop := fun r w dc ds => ∃ (P668016 : List Nat) (F668017 : Nat → va_E) (o668012 : Int32) (q668013 : Nat) (n668014 : Nat) (f668015 : Nat → Int32), r = some (.ref q667400) ∧ w = va_pl P668016 F668017 ∧ rSub P667398 P668016 ∧ rFr [q667400, q667401] P667398 F667399 F668017 ∧ F668017 q667400 = .inr (1, [.ref q668013, .int 0, .int p667403, .int o668012]) ∧ F668017 q668013 = .inl (I .byte, n668014, .inl f668015) ∧ q668013 ∈ P668016 ∧ (q668013 = q667401 ∨ q668013 ∉ P667398) ∧ dc ≤ 1 ∧ ds ≤ 2 * (n668014 - n667406) ∧ gB o668012 1 16777216 ∧ gF f668015 (-128) 127 ∧ p667404.toInt ≤ o668012.toInt ∧ o668012.toInt ≤ p667404.toInt + 11 ∧ o668012.toInt ≤ (n668014 : Int) ∧ (n667406 : Int) ≤ (n668014 : Int) ∧ ((n668014 : Int) ≤ 2 * (n667406 : Int) + 2 ∨ (n668014 : Int) ≤ p667404.toInt + 11) ∧ tr_RAbstractStringBuilder_append7 p667402 p667404 f667405 n667406 o668012 n668014 f668015
set_option maxRecDepth 100000 in
set_option maxHeartbeats 4000000 in
theorem cp_667410_AbstractStringBuilder_append (l : Launch) (hl0 : l.stackTraces = false) (D : va_G) (I : FieldType → ClassId) (P667398 : List Nat) (F667399 : Nat → va_E) (q667400 : Nat) (q667401 : Nat) (p667402 : Int32) (p667403 : Int32) (p667404 : Int32) (f667405 : Nat → Int32) (n667406 : Nat) (hmq667400 : q667400 ∈ P667398) (hmq667401 : q667401 ∈ P667398) (heq667400 : F667399 q667400 = .inr (1, [.ref q667401, .int 0, .int p667403, .int p667404])) (heq667401 : F667399 q667401 = .inl (I .byte, n667406, .inl f667405)) (bp667403 : gB p667403 0 1) (bp667404 : gB p667404 0 16777216) (bf667405 : gF f667405 (-128) 127) (x667407 : (n667406 : Int) ≤ 8388608 - 100000) (x667408 : p667404.toInt ≤ (n667406 : Int)) (x667409 : ((n667406 : Int) ≤ 16777216)) : CtA (gV D I) l yJ5_append_c97b9 cJ5_append_c97b9 4 (some (FieldType.object "java/lang/AbstractStringBuilder")) 4 84 1 (4 * n667406 + 64) [.ref q667400, .int p667402] (va_pl P667398 F667399) (pp_667410_AbstractStringBuilder_append D I P667398 F667399 q667400 q667401 p667402 p667403 p667404 f667405 n667406) gNA := by
  refine CtA_ofF hl0 (by decide +kernel) (Nat.le_of_ble_eq_true rfl) ?_
  have bp667402 := gB_any p667402
  refine G_aload_n 0 dr_cJ5_append_c97b9_0 rfl ?_
  refine Gp_get 3 hmq667400 heq667400 dr_cJ5_append_c97b9_1 (gk_J4 D I) (Nat.le_of_ble_eq_true rfl) wr_7_64 rfl ?_
  refine G_istore_n (L' := [(2, .int p667404), (0, .ref q667400), (1, .int p667402)]) dr_cJ5_append_c97b9_4 (Nat.le_of_ble_eq_true rfl) rfl ?_
  refine G_iload_n 0 dr_cJ5_append_c97b9_5 rfl ?_
  refine G_iload_n 2 dr_cJ5_append_c97b9_6 rfl ?_
  refine Gw_callS (As := [.int p667402]) (gV_ok D I) (cp_667414_Integer_stringSize l hl0 D I P667398 F667399 p667402 ) dr_cJ5_append_c97b9_7 ⟨wr_8_112, wr_1_35, wr_8_114, by decide, rfl, (Nat.le_of_ble_eq_true rfl), (Nat.le_of_ble_eq_true rfl)⟩ wr_8_113 (show 0 + 0 ≤ 1 by first | omega | decide) (show 0 + 0 ≤ (4 * n667406 + 64) by first | omega | decide) (Nat.le_of_ble_eq_true rfl) (fun r667549 w667550 dc667546 ds667547 hp667548 => ?_) (fun _ _ _ _ _ z => z.elim)
  obtain ⟨o667551, rfl, rfl, hdc, hds, bo667551, x667552, ht667553⟩ := hp667548
  change G _ _ _ _ _ _ _ (.int o667551 :: _) _ _ _
  refine G_widen (cs' := 0) (sl' := 0) (by omega) (by omega) ?_
  refine G_iadd dr_cJ5_append_c97b9_10 (G_nam fun z667554 hz667554 => ?_)
  have ez667554 : z667554.toInt = p667404.toInt + o667551.toInt := by rw [gI_add hz667554 bp667404 bo667551 (by decide) (by decide)]
  have bz667554 : gB z667554 1 16777227 := gB_add (gI_add hz667554 bp667404 bo667551 (by decide) (by decide)) bp667404 bo667551 (by decide) (by decide)
  refine G_istore_n (L' := [(3, .int z667554), (2, .int p667404), (0, .ref q667400), (1, .int p667402)]) dr_cJ5_append_c97b9_11 (Nat.le_of_ble_eq_true rfl) rfl ?_
  refine G_aload_n 2 dr_cJ5_append_c97b9_12 rfl ?_
  refine G_iload_n 0 dr_cJ5_append_c97b9_13 rfl ?_
  refine Gw_callVB (As := [.int z667554]) (gV_ok D I) (cp_658659_AbstractStringBuilder_ensureCapacityInternal l hl0 D I P667398 F667399 q667400 q667401 z667554 p667403 p667404 f667405 n667406 hmq667400 hmq667401 heq667400 heq667401 ⟨by omega, by omega⟩ bp667403 bp667404 bf667405 (by have qa0 : Int32.toInt 0 = 0 := (by decide); omega) (by have qa0 : Int32.toInt 0 = 0 := (by decide); omega)) dr_cJ5_append_c97b9_14 ⟨wr_8_4, wr_1_19, wr_8_7, by decide, rfl, (Nat.le_of_ble_eq_true rfl), (Nat.le_of_ble_eq_true rfl)⟩ wr_8_6 wr_s_0 hmq667400 heq667400 rfl (show 0 + 1 ≤ 1 by first | omega | decide) (show 0 + (2 * n667406 + 2 + z667554.toInt.toNat) ≤ (4 * n667406 + 64) by first | omega | decide) (Nat.le_of_ble_eq_true rfl) (fun r667558 w667559 dc667555 ds667556 hp667557 => ?_) (fun _ _ _ _ _ z => z.elim)
  obtain ⟨P667568, F667569, q667560, n667561, f667562, rfl, rfl, hsb667570, hfr667571, he667572, he667573, hm667574, hq667575, hdc, hds, bf667562, x667563, x667564, x667565, x667566, ht667567⟩ := hp667557
  have hm667576 : q667400 ∈ P667568 := hsb667570 q667400 hmq667400
  have hm667577 : q667401 ∈ P667568 := hsb667570 q667401 hmq667401
  have hor667578 : q667560 = q667401 ∨ q667560 ∉ P667398 := hq667575.elim Or.inl (fun n => Or.inr (fun z => n ((rSub_rf (P := P667398)) _ z)))
  have hsb667579 : rSub P667398 P667568 := rSub_tr (rSub_rf (P := P667398)) hsb667570
  have he667580 : F667569 q667401 = .inl (I .byte, n667406, .inl f667405) := (hfr667571 q667401 hmq667401 (nm_c (rn_ao heq667401 heq667400) nm_n)).trans heq667401
  have hfr667581 : rFr [q667400] P667398 F667399 F667569 := rFr_call (rSub_rf (P := P667398)) (rFr_rf (W := []) (P := P667398) (F := F667399)) hfr667571 (fun b hb hn => ⟨nm_n, (nm_c (fun e => hn (e ▸ List.mem_cons_self)) nm_n)⟩)
  change G _ _ _ _ _ _ _ _ _ _ _
  refine G_widen (cs' := 1) (sl' := 2 * (n667561 - n667406)) (by omega) (by omega) ?_
  refine G_aload_n 2 dr_cJ5_append_c97b9_17 rfl ?_
  refine Gw_callVB (As := []) (gV_ok D I) (cp_658560_AbstractStringBuilder_isLatin1 l hl0 D I P667568 F667569 q667400 q667560 p667403 p667404 f667562 n667561 hm667576 hm667574 he667572 he667573 bp667403 bp667404 bf667562 (by have qa0 : Int32.toInt 0 = 0 := (by decide); omega)) dr_cJ5_append_c97b9_18 ⟨wr_8_33, wr_1_19, wr_8_37, by decide, rfl, (Nat.le_of_ble_eq_true rfl), (Nat.le_of_ble_eq_true rfl)⟩ wr_8_34 wr_8_36 hm667576 he667572 rfl (show 1 + 0 ≤ 1 by first | omega | decide) (show 2 * (n667561 - n667406) + 0 ≤ (4 * n667406 + 64) by first | omega | decide) (Nat.le_of_ble_eq_true rfl) (fun r667585 w667586 dc667582 ds667583 hp667584 => ?_) (fun _ _ _ _ _ z => z.elim)
  obtain ⟨rfl, rfl, hdc, hds⟩ := hp667584
  change G _ _ _ _ _ _ _ (.int 1 :: _) _ _ _
  refine G_widen (cs' := 1) (sl' := 2 * (n667561 - n667406) + 0) (by omega) (by omega) ?_
  refine G_if_eq 37 dr_cJ5_append_c97b9_21 (by decide +kernel) (fun hc => absurd hc (by decide)) (fun _ => ?_)
  refine G_iload_n 3 dr_cJ5_append_c97b9_24 rfl ?_
  refine G_iload_n 0 dr_cJ5_append_c97b9_25 rfl ?_
  refine G_aload_n 2 dr_cJ5_append_c97b9_26 rfl ?_
  refine Gp_get 0 hm667576 he667572 dr_cJ5_append_c97b9_27 (gk_J4 D I) (Nat.le_of_ble_eq_true rfl) wr_7_60 rfl ?_
  refine Gw_callS (As := [.int p667402, .int z667554, .ref q667560]) (gV_ok D I) (cp_667597_Integer_getChars l hl0 D I P667568 F667569 q667560 p667402 z667554 f667562 n667561 hm667574 he667573 ⟨by omega, by omega⟩ bf667562 (by have qa0 : Int32.toInt 0 = 0 := (by decide); omega) (by have q10 : Int32.toInt 10 = 10 := (by decide); have q11 : Int32.toInt 11 = 11 := (by decide); first | exact dgS_up (by omega) (by omega) x667552 (by omega)) (by have qa0 : Int32.toInt 0 = 0 := (by decide); omega)) dr_cJ5_append_c97b9_30 ⟨wr_8_115, wr_1_35, wr_8_117, by decide, rfl, (Nat.le_of_ble_eq_true rfl), (Nat.le_of_ble_eq_true rfl)⟩ wr_8_116 (show 1 + 0 ≤ 1 by first | omega | decide) (show 2 * (n667561 - n667406) + 0 + 0 ≤ (4 * n667406 + 64) by first | omega | decide) (Nat.le_of_ble_eq_true rfl) (fun r667995 w667996 dc667992 ds667993 hp667994 => ?_) (fun _ _ _ _ _ z => z.elim)
  obtain ⟨F668000, o667997, f667998, rfl, rfl, hfr668002, he668003, hdc, hds, bo667997, bf667998, ht667999⟩ := hp667994
  have he668004 : F668000 q667400 = .inr (1, [.ref q667560, .int 0, .int p667403, .int p667404]) := (hfr668002 q667400 hm667576 (nm_c (rn_oa he667572 he667573) nm_n)).trans he667572
  have hfr668005 : rFr [q667400, q667401] P667398 F667399 F668000 := rFr_call hsb667579 hfr667581 hfr668002 (fun b hb hn => ⟨(nm_c (fun e => hn (e ▸ List.mem_cons_self)) nm_n), (nm_c (fun e => hor667578.elim (fun e2 => hn ((e.trans e2) ▸ (List.mem_cons_of_mem _ List.mem_cons_self))) (fun n => n (e ▸ hb))) nm_n)⟩)
  change G _ _ _ _ _ _ _ (.int o667997 :: _) _ _ _
  refine G_widen (cs' := 1) (sl' := 2 * (n667561 - n667406) + 0 + 0) (by omega) (by omega) ?_
  refine G_pop dr_cJ5_append_c97b9_33 rfl ?_
  refine G_goto 48 dr_cJ5_append_c97b9_34 (by decide +kernel) ?_
  refine G_aload_n 2 dr_cJ5_append_c97b9_48 rfl ?_
  refine G_iload_n 0 dr_cJ5_append_c97b9_49 rfl ?_
  refine Gp_put 3 hm667576 he668004 dr_cJ5_append_c97b9_50 (gk_J4 D I) (Nat.le_of_ble_eq_true rfl) wr_7_64 rfl rfl rfl (Nat.le_of_ble_eq_true rfl) (fun F668006 e668007 n668008 => ?_)
  have he668009 : F668006 q667560 = .inl (I .byte, n667561, .inl f667998) := (n668008 q667560 (rn_ao he668003 he668004)).trans he668003
  have he668010 : F668006 q667400 = .inr (1, [.ref q667560, .int 0, .int p667403, .int z667554]) := e668007
  have hfr668011 : rFr [q667400, q667401] P667398 F667399 F668006 := rFr_put' List.mem_cons_self hfr668005 n668008
  refine G_aload_n 2 dr_cJ5_append_c97b9_53 rfl ?_
  exact G_aretA (FieldType.object "java/lang/AbstractStringBuilder") dr_cJ5_append_c97b9_54 rfl (by first | exact Or.inl ⟨_, rfl⟩ | exact Or.inr ⟨_, rfl⟩) (Or.inr ⟨_, rfl⟩) (Nat.le_of_ble_eq_true rfl) (show 2 * (n667561 - n667406) + 0 + 0 ≤ (4 * n667406 + 64) by omega) ⟨P667568, F668006, z667554, q667560, n667561, f667998, rfl, rfl, hsb667579, hfr668011, he668010, he668009, hm667574, hor667578, (Nat.le_of_ble_eq_true rfl), (by omega), ⟨by omega, by omega⟩, bf667998, (by have qa0 : Int32.toInt 0 = 0 := (by decide); omega), (by have qa0 : Int32.toInt 0 = 0 := (by decide); omega), (by have qa0 : Int32.toInt 0 = 0 := (by decide); omega), (by have qa0 : Int32.toInt 0 = 0 := (by decide); omega), (by have qa0 : Int32.toInt 0 = 0 := (by decide); omega), (fun R c1 => c1 o667551 z667554 n667561 f667562 o667997 f667998 bo667551 ht667553 ez667554 ht667567 bo667997 ht667999)⟩
/- tr_RStringBuilder_append7: a.0...count, a.0.value.#, a.0.value.[] -/
def tr_RStringBuilder_append7 (a1 : Int32) (a0_count : Int32) (a0_value_v : Nat → Int32) (a0_value_n : Nat) (o1 : Int32) (o2 : Nat) (o3 : Nat → Int32) : Prop := ∀ R : (Int32) → (Nat) → (Nat → Int32) → Prop,
  (∀ (x1 : Int32) (x2 : Nat) (x3 : Nat → Int32), gB x1 1 16777216 → tr_RAbstractStringBuilder_append7 a1 a0_count a0_value_v a0_value_n x1 x2 x3 → R x1 x2 x3) →
  R o1 o2 o3
abbrev ky_667397_StringBuilder_append : gKey := (cJ4_append_bf812, 2, "java/lang/StringBuilder", (some (FieldType.object "java/lang/StringBuilder")), [], "append", fun _ _ => True)
def pp_667397_StringBuilder_append (D : va_G) (I : FieldType → ClassId) (P667385 : List Nat) (F667386 : Nat → va_E) (q667387 : Nat) (q667388 : Nat) (p667389 : Int32) (p667390 : Int32) (p667391 : Int32) (f667392 : Nat → Int32) (n667393 : Nat) : Option Value → va_W → Nat → Nat → Prop := fun r w dc ds => ∃ (P668050 : List Nat) (F668051 : Nat → va_E) (o668046 : Int32) (q668047 : Nat) (n668048 : Nat) (f668049 : Nat → Int32), r = some (.ref q667387) ∧ w = va_pl P668050 F668051 ∧ rSub P667385 P668050 ∧ rFr [q667387, q667388] P667385 F667386 F668051 ∧ F668051 q667387 = .inr (1, [.ref q668047, .int 0, .int p667390, .int o668046]) ∧ F668051 q668047 = .inl (I .byte, n668048, .inl f668049) ∧ q668047 ∈ P668050 ∧ (q668047 = q667388 ∨ q668047 ∉ P667385) ∧ dc ≤ 1 ∧ ds ≤ 2 * (n668048 - n667393) ∧ gB o668046 1 16777216 ∧ gF f668049 (-128) 127 ∧ p667391.toInt ≤ o668046.toInt ∧ o668046.toInt ≤ p667391.toInt + 11 ∧ o668046.toInt ≤ (n668048 : Int) ∧ (n667393 : Int) ≤ (n668048 : Int) ∧ ((n668048 : Int) ≤ 2 * (n667393 : Int) + 2 ∨ (n668048 : Int) ≤ p667391.toInt + 11) ∧ tr_RStringBuilder_append7 p667389 p667391 f667392 n667393 o668046 n668048 f668049
set_option maxRecDepth 100000 in
set_option maxHeartbeats 4000000 in
theorem cp_667397_StringBuilder_append (l : Launch) (hl0 : l.stackTraces = false) (D : va_G) (I : FieldType → ClassId) (P667385 : List Nat) (F667386 : Nat → va_E) (q667387 : Nat) (q667388 : Nat) (p667389 : Int32) (p667390 : Int32) (p667391 : Int32) (f667392 : Nat → Int32) (n667393 : Nat) (hmq667387 : q667387 ∈ P667385) (hmq667388 : q667388 ∈ P667385) (heq667387 : F667386 q667387 = .inr (1, [.ref q667388, .int 0, .int p667390, .int p667391])) (heq667388 : F667386 q667388 = .inl (I .byte, n667393, .inl f667392)) (bp667390 : gB p667390 0 1) (bp667391 : gB p667391 0 16777216) (bf667392 : gF f667392 (-128) 127) (x667394 : (n667393 : Int) ≤ 8388608 - 100000) (x667395 : p667391.toInt ≤ (n667393 : Int)) (x667396 : ((n667393 : Int) ≤ 16777216)) : CtA (gV D I) l yJ4_append_bf812 cJ4_append_bf812 2 (some (FieldType.object "java/lang/StringBuilder")) 5 107 1 (4 * n667393 + 64) [.ref q667387, .int p667389] (va_pl P667385 F667386) (pp_667397_StringBuilder_append D I P667385 F667386 q667387 q667388 p667389 p667390 p667391 f667392 n667393) gNA := by
  refine CtA_ofF hl0 (by decide +kernel) (Nat.le_of_ble_eq_true rfl) ?_
  have bp667389 := gB_any p667389
  refine G_aload_n 0 dr_cJ4_append_bf812_0 rfl ?_
  refine G_iload_n 1 dr_cJ4_append_bf812_1 rfl ?_
  refine Gw_callSU (As := [.int p667389]) (gV_ok D I) (cp_667410_AbstractStringBuilder_append l hl0 D I P667385 F667386 q667387 q667388 p667389 p667390 p667391 f667392 n667393 hmq667387 hmq667388 heq667387 heq667388 bp667390 bp667391 bf667392 (by have qa0 : Int32.toInt 0 = 0 := (by decide); omega) (by have qa0 : Int32.toInt 0 = 0 := (by decide); omega) (by have qa0 : Int32.toInt 0 = 0 := (by decide); omega)) dr_cJ4_append_bf812_2 ⟨wr_8_109, wr_1_19, wr_8_111, by decide, rfl, (Nat.le_of_ble_eq_true rfl), (Nat.le_of_ble_eq_true rfl)⟩ wr_8_110 wr_11_228 wr_7_73 wr_7_44 (by decide) hmq667387 heq667387 rfl (show 0 + 1 ≤ 1 by first | omega | decide) (show 0 + (4 * n667393 + 64) ≤ (4 * n667393 + 64) by first | omega | decide) (Nat.le_of_ble_eq_true rfl) (fun r668021 w668022 dc668018 ds668019 hp668020 => ?_)
  obtain ⟨P668033, F668034, o668023, q668024, n668025, f668026, rfl, rfl, hsb668035, hfr668036, he668037, he668038, hm668039, hq668040, hdc, hds, bo668023, bf668026, x668027, x668028, x668029, x668030, x668031, ht668032⟩ := hp668020
  have hm668041 : q667387 ∈ P668033 := hsb668035 q667387 hmq667387
  have hm668042 : q667388 ∈ P668033 := hsb668035 q667388 hmq667388
  have hor668043 : q668024 = q667388 ∨ q668024 ∉ P667385 := hq668040.elim Or.inl (fun n => Or.inr (fun z => n ((rSub_rf (P := P667385)) _ z)))
  have hsb668044 : rSub P667385 P668033 := rSub_tr (rSub_rf (P := P667385)) hsb668035
  have hfr668045 : rFr [q667387, q667388] P667385 F667386 F668034 := rFr_call (rSub_rf (P := P667385)) (rFr_rf (W := []) (P := P667385) (F := F667386)) hfr668036 (fun b hb hn => ⟨nm_n, (nm_c (fun e => hn (e ▸ List.mem_cons_self)) (nm_c (fun e => hn (e ▸ (List.mem_cons_of_mem _ List.mem_cons_self))) nm_n))⟩)
  change G _ _ _ _ _ _ _ (.ref q667387 :: _) _ _ _
  refine G_widen (cs' := 1) (sl' := 2 * (n668025 - n667393)) (by omega) (by omega) ?_
  refine G_pop dr_cJ4_append_bf812_5 rfl ?_
  refine G_aload_n 0 dr_cJ4_append_bf812_6 rfl ?_
  exact G_aretA (FieldType.object "java/lang/StringBuilder") dr_cJ4_append_bf812_7 rfl (by first | exact Or.inl ⟨_, rfl⟩ | exact Or.inr ⟨_, rfl⟩) (Or.inr ⟨_, rfl⟩) (Nat.le_of_ble_eq_true rfl) (show 2 * (n668025 - n667393) ≤ (4 * n667393 + 64) by omega) ⟨P668033, F668034, o668023, q668024, n668025, f668026, rfl, rfl, hsb668044, hfr668045, he668037, he668038, hm668039, hor668043, (Nat.le_of_ble_eq_true rfl), (by omega), bo668023, bf668026, (by have qa0 : Int32.toInt 0 = 0 := (by decide); omega), (by have qa0 : Int32.toInt 0 = 0 := (by decide); omega), (by have qa0 : Int32.toInt 0 = 0 := (by decide); omega), (by have qa0 : Int32.toInt 0 = 0 := (by decide); omega), (by have qa0 : Int32.toInt 0 = 0 := (by decide); omega), (fun R c1 => c1 o668023 n668025 f668026 bo668023 ht668032)⟩
/- tr_RReader_isDigit2: result -/
def tr_RReader_isDigit2 (a0 : Int32) (o1 : Int32) : Prop := ∀ R : (Int32) → Prop,
  (a0.toInt < 48 → R (0 : Int32)) →
  (48 ≤ a0.toInt → 57 < a0.toInt → R (0 : Int32)) →
  (48 ≤ a0.toInt → a0.toInt ≤ 57 → R (1 : Int32)) →
  R o1
abbrev ky_668112_Reader_isDigit : gKey := (cX14_isDigit, 1, "SpillForgeModel$Reader", (some FieldType.boolean), [], "isDigit", fun _ _ => True)
def pp_668112_Reader_isDigit (D : va_G) (I : FieldType → ClassId) (P668109 : List Nat) (F668110 : Nat → va_E) (p668111 : Int32) : Option Value → va_W → Nat → Nat → Prop := fun r w dc ds => ∃ (o668119 : Int32), r = some (.int o668119) ∧ w = va_pl P668109 F668110 ∧ dc ≤ 0 ∧ ds ≤ 0 ∧ gB o668119 0 1 ∧ isP p668111 48 57 o668119 ∧ tr_RReader_isDigit2 p668111 o668119
set_option maxRecDepth 100000 in
set_option maxHeartbeats 4000000 in
theorem cp_668112_Reader_isDigit (l : Launch) (hl0 : l.stackTraces = false) (D : va_G) (I : FieldType → ClassId) (P668109 : List Nat) (F668110 : Nat → va_E) (p668111 : Int32)  : CtA (gV D I) l yX14_isDigit cX14_isDigit 1 (some FieldType.boolean) 0 0 0 0 [.int p668111] (va_pl P668109 F668110) (pp_668112_Reader_isDigit D I P668109 F668110 p668111) gNA := by
  refine CtA_of hl0 (by decide) (Nat.le_of_ble_eq_true rfl) ?_
  have bp668111 := gB_any p668111
  refine G_iload_n 0 dr_cX14_isDigit_0 rfl ?_
  refine G_bipush 48 dr_cX14_isDigit_1 (by decide +kernel) ?_
  refine G_icmp_lt 16 dr_cX14_isDigit_3 (by decide +kernel) (fun hc668113 => ?_) (fun hc668113 => ?_)
  · have r668114 : p668111.toInt < 48 := gj_lt hc668113 (show Int32.toInt 48 = 48 by decide)
    have bp668111' : gB p668111 (-2147483648) 47 := ⟨by omega, by omega⟩
    refine G_iconst 0 dr_cX14_isDigit_16 (by decide +kernel) ?_
    exact G_zretA FieldType.boolean dr_cX14_isDigit_17 rfl rfl (Nat.le_of_ble_eq_true rfl) (Nat.le_of_ble_eq_true rfl) ⟨0, rfl, rfl, (Nat.le_of_ble_eq_true rfl), (Nat.le_of_ble_eq_true rfl), (gB_w (gBl (show Int32.toInt 0 = 0 by decide)) (by decide) (by decide)), (isP_n (by omega)), (fun R c1 c2 c3 => c1 r668114)⟩
  · have r668115 : 48 ≤ p668111.toInt := gj_nlt hc668113 (show Int32.toInt 48 = 48 by decide)
    have bp668111' : gB p668111 48 2147483647 := ⟨by omega, by omega⟩
    refine G_iload_n 0 dr_cX14_isDigit_6 rfl ?_
    refine G_bipush 57 dr_cX14_isDigit_7 (by decide +kernel) ?_
    refine G_icmp_gt 16 dr_cX14_isDigit_9 (by decide +kernel) (fun hc668116 => ?_) (fun hc668116 => ?_)
    · have r668117 : 57 < p668111.toInt := gj_ltL hc668116 (show Int32.toInt 57 = 57 by decide)
      have bp668111'' : gB p668111 58 2147483647 := ⟨by omega, by omega⟩
      refine G_iconst 0 dr_cX14_isDigit_16 (by decide +kernel) ?_
      exact G_zretA FieldType.boolean dr_cX14_isDigit_17 rfl rfl (Nat.le_of_ble_eq_true rfl) (Nat.le_of_ble_eq_true rfl) ⟨0, rfl, rfl, (Nat.le_of_ble_eq_true rfl), (Nat.le_of_ble_eq_true rfl), (gB_w (gBl (show Int32.toInt 0 = 0 by decide)) (by decide) (by decide)), (isP_n (by omega)), (fun R c1 c2 c3 => c2 r668115 r668117)⟩
    · have r668118 : p668111.toInt ≤ 57 := gj_nltL hc668116 (show Int32.toInt 57 = 57 by decide)
      have bp668111'' : gB p668111 48 57 := ⟨by omega, by omega⟩
      refine G_iconst 1 dr_cX14_isDigit_12 (by decide +kernel) ?_
      refine G_goto 17 dr_cX14_isDigit_13 (by decide +kernel) ?_
      exact G_zretA FieldType.boolean dr_cX14_isDigit_17 rfl rfl (Nat.le_of_ble_eq_true rfl) (Nat.le_of_ble_eq_true rfl) ⟨1, rfl, rfl, (Nat.le_of_ble_eq_true rfl), (Nat.le_of_ble_eq_true rfl), (gB_w (gBl (show Int32.toInt 1 = 1 by decide)) (by decide) (by decide)), (isP_y (by omega) (by omega)), (fun R c1 c2 c3 => c3 r668115 r668118)⟩
/- tr_RMath_min: result -/
def tr_RMath_min (a0 : Int64) (a1 : Int64) (o1 : Int64) : Prop := ∀ R : (Int64) → Prop,
  (∀ (x1 : Int32), x1 = lg_cmp a0 a1 → 0 < x1.toInt → R a1) →
  (∀ (x1 : Int32), x1 = lg_cmp a0 a1 → x1.toInt ≤ 0 → R a0) →
  R o1
abbrev ky_668166_Math_min : gKey := (cJ9_min_f86c9, 4, "java/lang/Math", (some FieldType.long), [], "min", fun _ _ => True)
def pp_668166_Math_min (D : va_G) (I : FieldType → ClassId) (P668162 : List Nat) (F668163 : Nat → va_E) (pl668164 : Int64) (pl668165 : Int64) : Option Value → va_W → Nat → Nat → Prop := fun r w dc ds => ∃ (ol668171 : Int64), r = some (.long ol668171) ∧ w = va_pl P668162 F668163 ∧ dc ≤ 0 ∧ ds ≤ 0 ∧ lmP pl668164 pl668165 ol668171 ∧ tr_RMath_min pl668164 pl668165 ol668171
set_option maxRecDepth 100000 in
set_option maxHeartbeats 4000000 in
theorem cp_668166_Math_min (l : Launch) (hl0 : l.stackTraces = false) (D : va_G) (I : FieldType → ClassId) (P668162 : List Nat) (F668163 : Nat → va_E) (pl668164 : Int64) (pl668165 : Int64)  : CtA (gV D I) l yJ9_min_f86c9 cJ9_min_f86c9 4 (some FieldType.long) 0 0 0 0 [.long pl668164, .long pl668165] (va_pl P668162 F668163) (pp_668166_Math_min D I P668162 F668163 pl668164 pl668165) gNA := by
  refine CtA_ofF hl0 (by decide +kernel) (Nat.le_of_ble_eq_true rfl) ?_
  refine G_lload_n 0 dr_cJ9_min_f86c9_0 rfl ?_
  refine G_lload_n 1 dr_cJ9_min_f86c9_1 rfl ?_
  refine G_lcmp dr_cJ9_min_f86c9_2 (G_nam fun z668167 hz668167 => ?_)
  have bz668167 : gB z668167 (-1) 1 := gB_cmp hz668167
  refine G_if_gt 10 dr_cJ9_min_f86c9_3 (by decide +kernel) (fun hc668168 => ?_) (fun hc668168 => ?_)
  · have r668169 : 0 < z668167.toInt := gj_ltL hc668168 (show Int32.toInt 0 = 0 by decide)
    have bz668167' : gB z668167 1 1 := ⟨by omega, by omega⟩
    have lhc668168 := gC_cmpS hz668167 (by omega)
    refine G_lload_n 1 dr_cJ9_min_f86c9_10 rfl ?_
    exact G_lretA dr_cJ9_min_f86c9_11 rfl (Nat.le_of_ble_eq_true rfl) (Nat.le_of_ble_eq_true rfl) ⟨pl668165, rfl, rfl, (Nat.le_of_ble_eq_true rfl), (Nat.le_of_ble_eq_true rfl), (by first | exact lm_r | exact lm_l (by assumption) (by omega)), (fun R c1 c2 => c1 z668167 hz668167 r668169)⟩
  · have r668170 : z668167.toInt ≤ 0 := gj_nltL hc668168 (show Int32.toInt 0 = 0 by decide)
    have bz668167' : gB z668167 (-1) 0 := ⟨by omega, by omega⟩
    refine G_lload_n 0 dr_cJ9_min_f86c9_6 rfl ?_
    refine G_goto 11 dr_cJ9_min_f86c9_7 (by decide +kernel) ?_
    exact G_lretA dr_cJ9_min_f86c9_11 rfl (Nat.le_of_ble_eq_true rfl) (Nat.le_of_ble_eq_true rfl) ⟨pl668164, rfl, rfl, (Nat.le_of_ble_eq_true rfl), (Nat.le_of_ble_eq_true rfl), (by first | exact lm_r | exact lm_l (by assumption) (by omega)), (fun R c1 c2 => c2 z668167 hz668167 r668170)⟩
/- tl_RReader_number_16: l2, a0_at; out: l2, a0_at -/
def tl_RReader_number_16 (a0_n : Int32) (a0_t_v : Nat → Int32) (s1 : Int64) (s2 : Int32) (k : Nat) (e1 : Int64) (e2 : Int32) : Prop := ∀ R : (Int64) → (Int32) → Nat → (Int64) → (Int32) → Prop,
  (∀ (l2_1 : Int64) (a0_at_1 : Int32), gB a0_at_1 0 8192 → a0_n.toInt ≤ a0_at_1.toInt → R l2_1 a0_at_1 82 l2_1 a0_at_1) →
  (∀ (l2_1 : Int64) (a0_at_1 : Int32) (x1 : Int32) (x2 : Int32), gB a0_at_1 0 8192 → a0_at_1.toInt < a0_n.toInt → x1 = a0_t_v a0_at_1.toNatClampNeg → gB x1 (-128) 127 → gB x2 0 1 → tr_RReader_isDigit2 x1 x2 → x2.toInt = 0 → R l2_1 a0_at_1 82 l2_1 a0_at_1) →
  (∀ (l2_1 : Int64) (a0_at_1 : Int32) (x1 : Int32) (x2 : Int32) (x3 : Int64) (x4 : Int64) (x5 : Int64) (x6 : Int64) (x7 : Int64) (x8 : Int32) (k : Nat) (e1 : Int64) (e2 : Int32), gB a0_at_1 0 8192 → a0_at_1.toInt < a0_n.toInt → x1 = a0_t_v a0_at_1.toNatClampNeg → gB x1 (-128) 127 → gB x2 0 1 → tr_RReader_isDigit2 x1 x2 → x2.toInt ≠ 0 → x3 = l2_1 * (10 : Int64) → x4 = x1.toInt64 → x5 = x3 + x4 → x6 = x5 - (48 : Int64) → tr_RMath_min x6 (1099511627776 : Int64) x7 → x8.toInt = a0_at_1.toInt + 1 → R x7 x8 k e1 e2 → R l2_1 a0_at_1 k e1 e2) →
  R s1 s2 k e1 e2
/- tl_RReader_number_16_2: l2, a0_at; out: l2, a0_at -/
def tl_RReader_number_16_2 (a0_n : Int32) (a0_t_v : Nat → Int32) (s1 : Int64) (s2 : Int32) (k : Nat) (e1 : Int64) (e2 : Int32) : Prop := ∀ R : (Int64) → (Int32) → Nat → (Int64) → (Int32) → Prop,
  (∀ (l2_1 : Int64) (a0_at_1 : Int32), gB a0_at_1 0 8192 → a0_n.toInt ≤ a0_at_1.toInt → R l2_1 a0_at_1 82 l2_1 a0_at_1) →
  (∀ (l2_1 : Int64) (a0_at_1 : Int32) (x1 : Int32) (x2 : Int32), gB a0_at_1 0 8192 → a0_at_1.toInt < a0_n.toInt → x1 = a0_t_v a0_at_1.toNatClampNeg → gB x1 (-128) 127 → gB x2 0 1 → tr_RReader_isDigit2 x1 x2 → x2.toInt = 0 → R l2_1 a0_at_1 82 l2_1 a0_at_1) →
  (∀ (l2_1 : Int64) (a0_at_1 : Int32) (x1 : Int32) (x2 : Int32) (x3 : Int64) (x4 : Int64) (x5 : Int64) (x6 : Int64) (x7 : Int64) (x8 : Int32) (k : Nat) (e1 : Int64) (e2 : Int32), gB a0_at_1 0 8192 → a0_at_1.toInt < a0_n.toInt → x1 = a0_t_v a0_at_1.toNatClampNeg → gB x1 (-128) 127 → gB x2 0 1 → tr_RReader_isDigit2 x1 x2 → x2.toInt ≠ 0 → x3 = l2_1 * (10 : Int64) → x4 = x1.toInt64 → x5 = x3 + x4 → x6 = x5 - (48 : Int64) → tr_RMath_min x6 (1099511627776 : Int64) x7 → x8.toInt = a0_at_1.toInt + 1 → R x7 x8 k e1 e2 → R l2_1 a0_at_1 k e1 e2) →
  R s1 s2 k e1 e2
/- tr_RReader_number: a.0...at, a.0...kind, a.0...value -/
def tr_RReader_number (a1 : Int32) (a0_n : Int32) (a0_at : Int32) (a0_t_v : Nat → Int32) (o1 : Int32) (o2 : Int32) (o3 : Int32) (o4 : gTx) : Prop := ∀ R : (Int32) → (Int32) → (Int32) → (gTx) → Prop,
  (∀ (x1 : Int64) (x2 : Int32) (x3 : Int32) (x4 : Int32) (x5 : Int64), a1.toInt = 0 → tl_RReader_number_16 a0_n a0_t_v (0 : Int64) a0_at 82 x1 x2 → x3 = x1.toInt32 → x4 = x1.toInt32 → x5 = x4.toInt64 → (¬ x1 = x5) → R x2 (6 : Int32) x3 (0, fun _ => 0)) →
  (∀ (x1 : Int64) (x2 : Int32) (x3 : Int32) (x4 : Int32) (x5 : Int64), a1.toInt = 0 → tl_RReader_number_16 a0_n a0_t_v (0 : Int64) a0_at 82 x1 x2 → x3 = x1.toInt32 → x4 = x1.toInt32 → x5 = x4.toInt64 → x1 = x5 → R x2 (4 : Int32) x3 (0, fun _ => 0)) →
  (∀ (x1 : Int32) (x2 : Int64) (x3 : Int32) (x4 : Int64) (x5 : Int32) (x6 : Int32) (x7 : Int64), a1.toInt ≠ 0 → x1.toInt = a0_at.toInt + 1 → tl_RReader_number_16_2 a0_n a0_t_v (0 : Int64) x1 82 x2 x3 → x4 = -x2 → x5 = x4.toInt32 → x6 = x4.toInt32 → x7 = x6.toInt64 → (¬ x4 = x7) → R x3 (6 : Int32) x5 (0, fun _ => 0)) →
  (∀ (x1 : Int32) (x2 : Int64) (x3 : Int32) (x4 : Int64) (x5 : Int32) (x6 : Int32) (x7 : Int64), a1.toInt ≠ 0 → x1.toInt = a0_at.toInt + 1 → tl_RReader_number_16_2 a0_n a0_t_v (0 : Int64) x1 82 x2 x3 → x4 = -x2 → x5 = x4.toInt32 → x6 = x4.toInt32 → x7 = x6.toInt64 → x4 = x7 → R x3 (4 : Int32) x5 (0, fun _ => 0)) →
  R o1 o2 o3 o4
