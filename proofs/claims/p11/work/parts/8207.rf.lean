theorem dr_cJ6_getChars_ba4f3_0 : decode cJ6_getChars_ba4f3 0 = .ok (.iload_n 1, 1) := by decide +kernel
theorem dr_cJ6_getChars_ba4f3_1 : decode cJ6_getChars_ba4f3 1 = .ok (.istore 5, 2) := by decide +kernel
theorem dr_cJ6_getChars_ba4f3_3 : decode cJ6_getChars_ba4f3 3 = .ok (.iload_n 0, 1) := by decide +kernel
theorem dr_cJ6_getChars_ba4f3_4 : decode cJ6_getChars_ba4f3 4 = .ok (.ifCond .ge 7, 3) := by decide +kernel
theorem dr_cJ6_getChars_ba4f3_11 : decode cJ6_getChars_ba4f3 11 = .ok (.iconst 0, 1) := by decide +kernel
theorem dr_cJ6_getChars_ba4f3_12 : decode cJ6_getChars_ba4f3 12 = .ok (.istore 6, 2) := by decide +kernel
theorem dr_cJ6_getChars_ba4f3_14 : decode cJ6_getChars_ba4f3 14 = .ok (.iload 6, 2) := by decide +kernel
theorem dr_cJ6_getChars_ba4f3_16 : decode cJ6_getChars_ba4f3 16 = .ok (.ifCond .ne 6, 3) := by decide +kernel
theorem dr_cJ6_getChars_ba4f3_19 : decode cJ6_getChars_ba4f3 19 = .ok (.iload_n 0, 1) := by decide +kernel
theorem dr_cJ6_getChars_ba4f3_20 : decode cJ6_getChars_ba4f3 20 = .ok (.ineg, 1) := by decide +kernel
theorem dr_cJ6_getChars_ba4f3_21 : decode cJ6_getChars_ba4f3 21 = .ok (.istore_n 0, 1) := by decide +kernel
theorem dr_cJ6_getChars_ba4f3_22 : decode cJ6_getChars_ba4f3 22 = .ok (.iload_n 0, 1) := by decide +kernel
theorem dr_cJ6_getChars_ba4f3_23 : decode cJ6_getChars_ba4f3 23 = .ok (.bipush (-100), 2) := by decide +kernel
theorem dr_cJ6_getChars_ba4f3_25 : decode cJ6_getChars_ba4f3 25 = .ok (.if_icmp .gt 47, 3) := by decide +kernel
theorem dr_cJ6_getChars_ba4f3_72 : decode cJ6_getChars_ba4f3 72 = .ok (.aload_n 2, 1) := by decide +kernel
theorem dr_cJ6_getChars_ba4f3_73 : decode cJ6_getChars_ba4f3 73 = .ok (.iinc 5 (-1), 3) := by decide +kernel
theorem dr_cJ6_getChars_ba4f3_76 : decode cJ6_getChars_ba4f3 76 = .ok (.iload 5, 2) := by decide +kernel
theorem dr_cJ6_getChars_ba4f3_78 : decode cJ6_getChars_ba4f3 78 = .ok (.getstatic 83, 3) := by decide +kernel
theorem wr_8_118 : (Jvm.Cond.fieldLink "java/lang/Integer" (83 : Nat) "java/lang/Integer" "DigitOnes" "[B") ∈ gw := gw_8 118 rfl rfl
theorem dr_cJ6_getChars_ba4f3_81 : decode cJ6_getChars_ba4f3 81 = .ok (.iload_n 0, 1) := by decide +kernel
theorem dr_cJ6_getChars_ba4f3_82 : decode cJ6_getChars_ba4f3 82 = .ok (.ineg, 1) := by decide +kernel
theorem dr_cJ6_getChars_ba4f3_83 : decode cJ6_getChars_ba4f3 83 = .ok (.baload, 1) := by decide +kernel
theorem dr_cJ6_getChars_ba4f3_84 : decode cJ6_getChars_ba4f3 84 = .ok (.bastore, 1) := by decide +kernel
theorem dr_cJ6_getChars_ba4f3_85 : decode cJ6_getChars_ba4f3 85 = .ok (.iload_n 0, 1) := by decide +kernel
theorem dr_cJ6_getChars_ba4f3_86 : decode cJ6_getChars_ba4f3 86 = .ok (.bipush (-9), 2) := by decide +kernel
theorem dr_cJ6_getChars_ba4f3_88 : decode cJ6_getChars_ba4f3 88 = .ok (.if_icmp .ge 16, 3) := by decide +kernel
theorem dr_cJ6_getChars_ba4f3_104 : decode cJ6_getChars_ba4f3 104 = .ok (.iload 6, 2) := by decide +kernel
theorem dr_cJ6_getChars_ba4f3_106 : decode cJ6_getChars_ba4f3 106 = .ok (.ifCond .eq 12, 3) := by decide +kernel
theorem dr_cJ6_getChars_ba4f3_118 : decode cJ6_getChars_ba4f3 118 = .ok (.iload 5, 2) := by decide +kernel
theorem dr_cJ6_getChars_ba4f3_120 : decode cJ6_getChars_ba4f3 120 = .ok (.ireturn, 1) := by decide +kernel
theorem dr_cJ6_getChars_ba4f3_91 : decode cJ6_getChars_ba4f3 91 = .ok (.aload_n 2, 1) := by decide +kernel
theorem dr_cJ6_getChars_ba4f3_92 : decode cJ6_getChars_ba4f3 92 = .ok (.iinc 5 (-1), 3) := by decide +kernel
theorem dr_cJ6_getChars_ba4f3_95 : decode cJ6_getChars_ba4f3 95 = .ok (.iload 5, 2) := by decide +kernel
theorem dr_cJ6_getChars_ba4f3_97 : decode cJ6_getChars_ba4f3 97 = .ok (.getstatic 87, 3) := by decide +kernel
theorem wr_8_120 : (Jvm.Cond.fieldLink "java/lang/Integer" (87 : Nat) "java/lang/Integer" "DigitTens" "[B") ∈ gw := gw_8 120 rfl rfl
theorem dr_cJ6_getChars_ba4f3_100 : decode cJ6_getChars_ba4f3 100 = .ok (.iload_n 0, 1) := by decide +kernel
theorem dr_cJ6_getChars_ba4f3_101 : decode cJ6_getChars_ba4f3 101 = .ok (.ineg, 1) := by decide +kernel
theorem dr_cJ6_getChars_ba4f3_102 : decode cJ6_getChars_ba4f3 102 = .ok (.baload, 1) := by decide +kernel
theorem dr_cJ6_getChars_ba4f3_103 : decode cJ6_getChars_ba4f3 103 = .ok (.bastore, 1) := by decide +kernel
theorem dr_cJ6_getChars_ba4f3_28 : decode cJ6_getChars_ba4f3 28 = .ok (.iload_n 0, 1) := by decide +kernel
theorem dr_cJ6_getChars_ba4f3_29 : decode cJ6_getChars_ba4f3 29 = .ok (.bipush 100, 2) := by decide +kernel
theorem dr_cJ6_getChars_ba4f3_31 : decode cJ6_getChars_ba4f3 31 = .ok (.idiv, 1) := by decide +kernel
theorem dr_cJ6_getChars_ba4f3_32 : decode cJ6_getChars_ba4f3 32 = .ok (.istore_n 3, 1) := by decide +kernel
theorem dr_cJ6_getChars_ba4f3_33 : decode cJ6_getChars_ba4f3 33 = .ok (.iload_n 3, 1) := by decide +kernel
theorem dr_cJ6_getChars_ba4f3_34 : decode cJ6_getChars_ba4f3 34 = .ok (.bipush 100, 2) := by decide +kernel
theorem dr_cJ6_getChars_ba4f3_36 : decode cJ6_getChars_ba4f3 36 = .ok (.imul, 1) := by decide +kernel
theorem dr_cJ6_getChars_ba4f3_37 : decode cJ6_getChars_ba4f3 37 = .ok (.iload_n 0, 1) := by decide +kernel
theorem dr_cJ6_getChars_ba4f3_38 : decode cJ6_getChars_ba4f3 38 = .ok (.isub, 1) := by decide +kernel
theorem dr_cJ6_getChars_ba4f3_39 : decode cJ6_getChars_ba4f3 39 = .ok (.istore 4, 2) := by decide +kernel
theorem dr_cJ6_getChars_ba4f3_41 : decode cJ6_getChars_ba4f3 41 = .ok (.iload_n 3, 1) := by decide +kernel
theorem dr_cJ6_getChars_ba4f3_42 : decode cJ6_getChars_ba4f3 42 = .ok (.istore_n 0, 1) := by decide +kernel
theorem dr_cJ6_getChars_ba4f3_43 : decode cJ6_getChars_ba4f3 43 = .ok (.aload_n 2, 1) := by decide +kernel
theorem dr_cJ6_getChars_ba4f3_44 : decode cJ6_getChars_ba4f3 44 = .ok (.iinc 5 (-1), 3) := by decide +kernel
theorem dr_cJ6_getChars_ba4f3_47 : decode cJ6_getChars_ba4f3 47 = .ok (.iload 5, 2) := by decide +kernel
theorem dr_cJ6_getChars_ba4f3_49 : decode cJ6_getChars_ba4f3 49 = .ok (.getstatic 83, 3) := by decide +kernel
theorem dr_cJ6_getChars_ba4f3_52 : decode cJ6_getChars_ba4f3 52 = .ok (.iload 4, 2) := by decide +kernel
theorem dr_cJ6_getChars_ba4f3_54 : decode cJ6_getChars_ba4f3 54 = .ok (.baload, 1) := by decide +kernel
theorem dr_cJ6_getChars_ba4f3_55 : decode cJ6_getChars_ba4f3 55 = .ok (.bastore, 1) := by decide +kernel
theorem dr_cJ6_getChars_ba4f3_56 : decode cJ6_getChars_ba4f3 56 = .ok (.aload_n 2, 1) := by decide +kernel
theorem dr_cJ6_getChars_ba4f3_57 : decode cJ6_getChars_ba4f3 57 = .ok (.iinc 5 (-1), 3) := by decide +kernel
theorem dr_cJ6_getChars_ba4f3_60 : decode cJ6_getChars_ba4f3 60 = .ok (.iload 5, 2) := by decide +kernel
theorem dr_cJ6_getChars_ba4f3_62 : decode cJ6_getChars_ba4f3 62 = .ok (.getstatic 87, 3) := by decide +kernel
theorem dr_cJ6_getChars_ba4f3_65 : decode cJ6_getChars_ba4f3 65 = .ok (.iload 4, 2) := by decide +kernel
theorem dr_cJ6_getChars_ba4f3_67 : decode cJ6_getChars_ba4f3 67 = .ok (.baload, 1) := by decide +kernel
theorem dr_cJ6_getChars_ba4f3_68 : decode cJ6_getChars_ba4f3 68 = .ok (.bastore, 1) := by decide +kernel
theorem dr_cJ6_getChars_ba4f3_69 : decode cJ6_getChars_ba4f3 69 = .ok (.goto (-47), 3) := by decide +kernel
theorem dr_cJ6_getChars_ba4f3_7 : decode cJ6_getChars_ba4f3 7 = .ok (.iconst 1, 1) := by decide +kernel
theorem dr_cJ6_getChars_ba4f3_8 : decode cJ6_getChars_ba4f3 8 = .ok (.goto 4, 3) := by decide +kernel
theorem dr_cJ6_getChars_ba4f3_109 : decode cJ6_getChars_ba4f3 109 = .ok (.aload_n 2, 1) := by decide +kernel
theorem dr_cJ6_getChars_ba4f3_110 : decode cJ6_getChars_ba4f3 110 = .ok (.iinc 5 (-1), 3) := by decide +kernel
theorem dr_cJ6_getChars_ba4f3_113 : decode cJ6_getChars_ba4f3 113 = .ok (.iload 5, 2) := by decide +kernel
theorem dr_cJ6_getChars_ba4f3_115 : decode cJ6_getChars_ba4f3 115 = .ok (.bipush 45, 2) := by decide +kernel
theorem dr_cJ6_getChars_ba4f3_117 : decode cJ6_getChars_ba4f3 117 = .ok (.bastore, 1) := by decide +kernel
theorem dr_cJ5_append_c97b9_0 : decode cJ5_append_c97b9 0 = .ok (.aload_n 0, 1) := by decide +kernel
theorem dr_cJ5_append_c97b9_1 : decode cJ5_append_c97b9 1 = .ok (.getfield 79, 3) := by decide +kernel
theorem dr_cJ5_append_c97b9_4 : decode cJ5_append_c97b9 4 = .ok (.istore_n 2, 1) := by decide +kernel
theorem dr_cJ5_append_c97b9_5 : decode cJ5_append_c97b9 5 = .ok (.iload_n 2, 1) := by decide +kernel
theorem dr_cJ5_append_c97b9_6 : decode cJ5_append_c97b9 6 = .ok (.iload_n 1, 1) := by decide +kernel
theorem dr_cJ5_append_c97b9_7 : decode cJ5_append_c97b9 7 = .ok (.invokestatic 245, 3) := by decide +kernel
theorem wr_8_112 : (Jvm.Cond.methodLink "java/lang/AbstractStringBuilder" (245 : Nat) ({ cls := "java/lang/Integer", name := "stringSize", desc := "(I)I" } : Jvm.MethodName)) ∈ gw := gw_8 112 rfl rfl
theorem wr_8_114 : (Jvm.Cond.code ({ cls := "java/lang/Integer", name := "stringSize", desc := "(I)I" } : Jvm.MethodName) prog_29_method_13_code (4 : Nat) (Option.some Jvm.ClassFile.FieldType.int)) ∈ gw := gw_8 114 rfl rfl
theorem wr_8_113 : (Jvm.Cond.static ({ cls := "java/lang/Integer", name := "stringSize", desc := "(I)I" } : Jvm.MethodName)) ∈ gw := gw_8 113 rfl rfl
theorem dr_cJ5_append_c97b9_10 : decode cJ5_append_c97b9 10 = .ok (.iadd, 1) := by decide +kernel
theorem dr_cJ5_append_c97b9_11 : decode cJ5_append_c97b9 11 = .ok (.istore_n 3, 1) := by decide +kernel
theorem dr_cJ5_append_c97b9_12 : decode cJ5_append_c97b9 12 = .ok (.aload_n 0, 1) := by decide +kernel
theorem dr_cJ5_append_c97b9_13 : decode cJ5_append_c97b9 13 = .ok (.iload_n 3, 1) := by decide +kernel
theorem dr_cJ5_append_c97b9_14 : decode cJ5_append_c97b9 14 = .ok (.invokevirtual 100, 3) := by decide +kernel
theorem dr_cJ5_append_c97b9_17 : decode cJ5_append_c97b9 17 = .ok (.aload_n 0, 1) := by decide +kernel
theorem dr_cJ5_append_c97b9_18 : decode cJ5_append_c97b9 18 = .ok (.invokevirtual 83, 3) := by decide +kernel
theorem dr_cJ5_append_c97b9_21 : decode cJ5_append_c97b9 21 = .ok (.ifCond .eq 16, 3) := by decide +kernel
theorem dr_cJ5_append_c97b9_24 : decode cJ5_append_c97b9 24 = .ok (.iload_n 1, 1) := by decide +kernel
theorem dr_cJ5_append_c97b9_25 : decode cJ5_append_c97b9 25 = .ok (.iload_n 3, 1) := by decide +kernel
theorem dr_cJ5_append_c97b9_26 : decode cJ5_append_c97b9 26 = .ok (.aload_n 0, 1) := by decide +kernel
theorem dr_cJ5_append_c97b9_27 : decode cJ5_append_c97b9 27 = .ok (.getfield 15, 3) := by decide +kernel
theorem dr_cJ5_append_c97b9_30 : decode cJ5_append_c97b9 30 = .ok (.invokestatic 248, 3) := by decide +kernel
theorem wr_8_115 : (Jvm.Cond.methodLink "java/lang/AbstractStringBuilder" (248 : Nat) ({ cls := "java/lang/Integer", name := "getChars", desc := "(II[B)I" } : Jvm.MethodName)) ∈ gw := gw_8 115 rfl rfl
theorem wr_8_117 : (Jvm.Cond.code ({ cls := "java/lang/Integer", name := "getChars", desc := "(II[B)I" } : Jvm.MethodName) prog_29_method_12_code (7 : Nat) (Option.some Jvm.ClassFile.FieldType.int)) ∈ gw := gw_8 117 rfl rfl
theorem wr_8_116 : (Jvm.Cond.static ({ cls := "java/lang/Integer", name := "getChars", desc := "(II[B)I" } : Jvm.MethodName)) ∈ gw := gw_8 116 rfl rfl
theorem dr_cJ5_append_c97b9_33 : decode cJ5_append_c97b9 33 = .ok (.pop, 1) := by decide +kernel
theorem dr_cJ5_append_c97b9_34 : decode cJ5_append_c97b9 34 = .ok (.goto 14, 3) := by decide +kernel
theorem dr_cJ5_append_c97b9_48 : decode cJ5_append_c97b9 48 = .ok (.aload_n 0, 1) := by decide +kernel
theorem dr_cJ5_append_c97b9_49 : decode cJ5_append_c97b9 49 = .ok (.iload_n 3, 1) := by decide +kernel
theorem dr_cJ5_append_c97b9_50 : decode cJ5_append_c97b9 50 = .ok (.putfield 79, 3) := by decide +kernel
theorem dr_cJ5_append_c97b9_53 : decode cJ5_append_c97b9 53 = .ok (.aload_n 0, 1) := by decide +kernel
theorem dr_cJ5_append_c97b9_54 : decode cJ5_append_c97b9 54 = .ok (.areturn, 1) := by decide +kernel
theorem dr_cJ4_append_bf812_0 : decode cJ4_append_bf812 0 = .ok (.aload_n 0, 1) := by decide +kernel
theorem dr_cJ4_append_bf812_1 : decode cJ4_append_bf812 1 = .ok (.iload_n 1, 1) := by decide +kernel
theorem dr_cJ4_append_bf812_2 : decode cJ4_append_bf812 2 = .ok (.invokespecial 53, 3) := by decide +kernel
theorem wr_8_109 : (Jvm.Cond.methodLink "java/lang/StringBuilder" (53 : Nat) ({ cls := "java/lang/AbstractStringBuilder", name := "append", desc := "(I)Ljava/lang/AbstractStringBuilder;" } : Jvm.MethodName)) ∈ gw := gw_8 109 rfl rfl
theorem wr_8_111 : (Jvm.Cond.code ({ cls := "java/lang/AbstractStringBuilder", name := "append", desc := "(I)Ljava/lang/AbstractStringBuilder;" } : Jvm.MethodName) prog_21_method_32_code (4 : Nat) (Option.some (Jvm.ClassFile.FieldType.object "java/lang/AbstractStringBuilder"))) ∈ gw := gw_8 111 rfl rfl
theorem wr_8_110 : (Jvm.Cond.instanceMethod ({ cls := "java/lang/AbstractStringBuilder", name := "append", desc := "(I)Ljava/lang/AbstractStringBuilder;" } : Jvm.MethodName)) ∈ gw := gw_8 110 rfl rfl
theorem wr_11_228 : (Jvm.Cond.sameMethod "java/lang/AbstractStringBuilder" "java/lang/AbstractStringBuilder" "append" "(I)Ljava/lang/AbstractStringBuilder;") ∈ gw := gw_11 228 rfl rfl
theorem dr_cJ4_append_bf812_5 : decode cJ4_append_bf812 5 = .ok (.pop, 1) := by decide +kernel
theorem dr_cJ4_append_bf812_6 : decode cJ4_append_bf812 6 = .ok (.aload_n 0, 1) := by decide +kernel
theorem dr_cJ4_append_bf812_7 : decode cJ4_append_bf812 7 = .ok (.areturn, 1) := by decide +kernel
theorem dr_cJ9_min_f86c9_0 : decode cJ9_min_f86c9 0 = .ok (.lload_n 0, 1) := by decide +kernel
theorem dr_cJ9_min_f86c9_1 : decode cJ9_min_f86c9 1 = .ok (.lload_n 2, 1) := by decide +kernel
theorem dr_cJ9_min_f86c9_2 : decode cJ9_min_f86c9 2 = .ok (.lcmp, 1) := by decide +kernel
theorem dr_cJ9_min_f86c9_3 : decode cJ9_min_f86c9 3 = .ok (.ifCond .gt 7, 3) := by decide +kernel
theorem dr_cJ9_min_f86c9_10 : decode cJ9_min_f86c9 10 = .ok (.lload_n 2, 1) := by decide +kernel
theorem dr_cJ9_min_f86c9_11 : decode cJ9_min_f86c9 11 = .ok (.lreturn, 1) := by decide +kernel
theorem dr_cJ9_min_f86c9_6 : decode cJ9_min_f86c9 6 = .ok (.lload_n 0, 1) := by decide +kernel
theorem dr_cJ9_min_f86c9_7 : decode cJ9_min_f86c9 7 = .ok (.goto 4, 3) := by decide +kernel
abbrev ky_667760_Integer_getChars : gKey := (cJ6_getChars_ba4f3, 7, "java/lang/Integer", (some FieldType.int), [], "getChars", fun _ _ => True)
def pp_667760_Integer_getChars (D : va_G) (I : FieldType → ClassId) (P667750 : List Nat) (F667751 : Nat → va_E) (q667752 : Nat) (p667753 : Int32) (p667754 : Int32) (f667755 : Nat → Int32) (n667756 : Nat) : Option Value → va_W → Nat → Nat → Prop := fun r w dc ds => ∃ (F668154 : Nat → va_E) (o668152 : Int32) (f668151 : Nat → Int32), r = some (.int o668152) ∧ w = va_pl P667750 F668154 ∧ rFr [q667752] P667750 F667751 F668154 ∧ F668154 q667752 = .inl (I .byte, n667756, .inl f668151) ∧ dc ≤ 0 ∧ ds ≤ 0 ∧ gB o668152 0 16777215 ∧ gF f668151 (-128) 127 ∧ tr_RInteger_getChars p667753 p667754 f667755 o668152 f668151
set_option maxRecDepth 100000 in
set_option maxHeartbeats 4000000 in
theorem cp_667760_Integer_getChars (l : Launch) (hl0 : l.stackTraces = false) (D : va_G) (I : FieldType → ClassId) (P667750 : List Nat) (F667751 : Nat → va_E) (q667752 : Nat) (p667753 : Int32) (p667754 : Int32) (f667755 : Nat → Int32) (n667756 : Nat) (hmq667752 : q667752 ∈ P667750) (heq667752 : F667751 q667752 = .inl (I .byte, n667756, .inl f667755)) (bp667754 : gB p667754 0 16777216) (bf667755 : gF f667755 (-128) 127) (x667757 : p667754.toInt ≤ (n667756 : Int)) (x667758 : dgS p667753.toInt p667754.toInt) (x667759 : ((n667756 : Int) ≤ 16777216)) : CtA (gV D I) l yJ6_getChars_ba4f3 cJ6_getChars_ba4f3 7 (some FieldType.int) 0 0 0 0 [.int p667753, .int p667754, .ref q667752] (va_pl P667750 F667751) (pp_667760_Integer_getChars D I P667750 F667751 q667752 p667753 p667754 f667755 n667756) gNA := by
  refine CtA_ofF hl0 (by decide +kernel) (Nat.le_of_ble_eq_true rfl) ?_
  have bp667753 := gB_any p667753
  refine G_iload_n 1 dr_cJ6_getChars_ba4f3_0 rfl ?_
  refine G_istore (L' := [(5, .int p667754), (0, .int p667753), (1, .int p667754), (2, .ref q667752)]) dr_cJ6_getChars_ba4f3_1 (Nat.le_of_ble_eq_true rfl) rfl ?_
  refine G_iload_n 1 dr_cJ6_getChars_ba4f3_3 rfl ?_
  refine G_if_ge 11 dr_cJ6_getChars_ba4f3_4 (by decide +kernel) (fun hc667761 => ?_) (fun hc667761 => ?_)
  · have r667762 : 0 ≤ p667753.toInt := gj_leL hc667761 (show Int32.toInt 0 = 0 by decide)
    have bp667753' : gB p667753 0 2147483647 := ⟨by omega, by omega⟩
    refine G_iconst 0 dr_cJ6_getChars_ba4f3_11 (by decide +kernel) ?_
    refine G_istore (L' := [(6, .int 0), (5, .int p667754), (0, .int p667753), (1, .int p667754), (2, .ref q667752)]) dr_cJ6_getChars_ba4f3_12 (Nat.le_of_ble_eq_true rfl) rfl ?_
    refine G_iload 0 dr_cJ6_getChars_ba4f3_14 rfl ?_
    refine G_if_ne 22 dr_cJ6_getChars_ba4f3_16 (by decide +kernel) (fun hc => absurd hc (by decide)) (fun _ => ?_)
    refine G_iload_n 2 dr_cJ6_getChars_ba4f3_19 rfl ?_
    refine G_ineg dr_cJ6_getChars_ba4f3_20 (G_nam fun z667763 hz667763 => ?_)
    have ez667763 : z667763.toInt = -p667753.toInt := gI_neg hz667763 bp667753' (by decide)
    have bz667763 : gB z667763 (-2147483647) 0 := ⟨by omega, by omega⟩
    refine G_istore_n (L' := [(0, .int z667763), (6, .int 0), (5, .int p667754), (1, .int p667754), (2, .ref q667752)]) dr_cJ6_getChars_ba4f3_21 (Nat.le_of_ble_eq_true rfl) rfl ?_
    have hlp22_667880 : ∀ (n22_667880 : Nat) (F667875 : Nat → va_E) (g667872 : Int32) (g667873 : Int32) (f667874 : Nat → Int32), gB g667872 (-2147483647) 0 → gB g667873 0 16777216 → gF f667874 (-128) 127 → rFr [q667752] P667750 F667751 F667875 → F667875 q667752 = .inl (I .byte, n667756, .inl f667874) → g667872.toInt ≤ 0 → dgB g667872.toInt (g667873.toInt - 0) → g667873.toInt ≤ p667754.toInt → (∀ (k : Nat) (e1 : Int32) (e2 : Int32) (e3 : Nat → Int32), tl_RInteger_getChars_22 g667872 g667873 f667874 k e1 e2 e3 → tl_RInteger_getChars_22 z667763 p667754 f667755 k e1 e2 e3) → (-g667872.toInt).toNat < n22_667880 → G (gV D I) l (gRm 0 0 0 0) (gMA (gV D I) (pp_667760_Integer_getChars D I P667750 F667751 q667752 p667753 p667754 f667755 n667756) gNA 0 0) ky_667760_Integer_getChars 22 [(0, .int g667872), (6, .int 0), (5, .int g667873), (1, .int p667754), (2, .ref q667752)] [] (va_pl P667750 F667875) 0 0 := by
      intro n22_667880
      induction n22_667880 with
      | zero => intro F667875 g667872 g667873 f667874 bg667872 bg667873 bf667874 hfr667877 he667876 x667878 x667879 x667880 kt22_667880 hm22_667880; exact absurd hm22_667880 (Nat.not_lt_zero _)
      | succ n22_667880 ih22_667880 =>
        intro F667875 g667872 g667873 f667874 bg667872 bg667873 bf667874 hfr667877 he667876 x667878 x667879 x667880 kt22_667880 hm22_667880
        refine G_iload_n 0 dr_cJ6_getChars_ba4f3_22 rfl ?_
        refine G_bipush (-100) dr_cJ6_getChars_ba4f3_23 (by decide +kernel) ?_
        refine G_icmp_gt 72 dr_cJ6_getChars_ba4f3_25 (by decide +kernel) (fun hc667881 => ?_) (fun hc667881 => ?_)
        · have r667882 : (-100) < g667872.toInt := gj_ltL hc667881 (show Int32.toInt (-100) = (-100) by decide)
          have bg667872' : gB g667872 (-99) 0 := ⟨by omega, by omega⟩
          have hx667883 : tl_RInteger_getChars_22 z667763 p667754 f667755 72 g667872 g667873 f667874 := kt22_667880 72 g667872 g667873 f667874 (fun R c1 c2 => c1 g667872 g667873 f667874 bg667872 bg667873 r667882)
          have x667884 : (1 : Int) ≤ (g667873.toInt - 0) := dgB_1 x667879
          refine G_aload_n 4 dr_cJ6_getChars_ba4f3_72 rfl ?_
          have bg667873' : gB g667873 1 16777216 := ⟨by omega, by omega⟩
          obtain ⟨z667885, hz667885⟩ : ∃ z : Int32, z = g667873 + Int32.ofInt (-1) := ⟨_, rfl⟩
          have ez667885 : z667885.toInt = g667873.toInt + (-1) := gI_inc hz667885 (by decide) bg667873' (by decide) (by decide)
          have bz667885 : gB z667885 0 16777215 := ⟨by omega, by omega⟩
          refine G_iinc (L' := [(5, .int z667885), (0, .int g667872), (6, .int 0), (1, .int p667754), (2, .ref q667752)]) z667885 2 dr_cJ6_getChars_ba4f3_73 rfl hz667885.symm (Nat.le_of_ble_eq_true rfl) rfl ?_
          refine G_iload 0 dr_cJ6_getChars_ba4f3_76 rfl ?_
          refine G_gets dr_cJ6_getChars_ba4f3_78 wr_8_118 gr_on (fun x667887 hx667886 => ?_)
          subst hx667886
          refine G_iload_n 1 dr_cJ6_getChars_ba4f3_81 rfl ?_
          refine G_ineg dr_cJ6_getChars_ba4f3_82 (G_nam fun z667888 hz667888 => ?_)
          have ez667888 : z667888.toInt = -g667872.toInt := gI_neg hz667888 bg667872' (by decide)
          have bz667888 : gB z667888 0 99 := ⟨by omega, by omega⟩
          refine G_kbald (f := dg_O) dr_cJ6_getChars_ba4f3_83 gr_ont (gB_inr (by omega) (by omega)) (G_nam fun z667889 hz667889 => ?_)
          have bz667889 : gB z667889 (-2147483648) 2147483647 := gB_any z667889
          refine Gp_bast 1 hmq667752 he667876 dr_cJ6_getChars_ba4f3_84 rfl (gB_inr (by omega) (by omega)) (fun F667890 e667891 n667892 => ?_)
          obtain ⟨f667893, hf667893⟩ : ∃ z, z = upd f667874 z667885.toNatClampNeg (vp_nar .byte z667889) := ⟨_, rfl⟩
          rw [← hf667893] at e667891
          have he667894 : F667890 q667752 = .inl (I .byte, n667756, .inl f667893) := e667891
          have hfr667895 : rFr [q667752] P667750 F667751 F667890 := rFr_put' List.mem_cons_self hfr667877 n667892
          have bf667893 : gF f667893 (-128) 127 := gF_upd hf667893 bf667874 gB_byte
          refine G_iload_n 1 dr_cJ6_getChars_ba4f3_85 rfl ?_
          refine G_bipush (-9) dr_cJ6_getChars_ba4f3_86 (by decide +kernel) ?_
          refine G_icmp_ge 104 dr_cJ6_getChars_ba4f3_88 (by decide +kernel) (fun hc667896 => ?_) (fun hc667896 => ?_)
          · have r667897 : (-9) ≤ g667872.toInt := gj_leL hc667896 (show Int32.toInt (-9) = (-9) by decide)
            have bg667872'' : gB g667872 (-9) 0 := ⟨by omega, by omega⟩
            refine G_iload 2 dr_cJ6_getChars_ba4f3_104 rfl ?_
            refine G_if_eq 118 dr_cJ6_getChars_ba4f3_106 (by decide +kernel) (fun _ => ?_) (fun hc => absurd hc (by decide))
            refine G_iload 0 dr_cJ6_getChars_ba4f3_118 rfl ?_
            exact G_iretA dr_cJ6_getChars_ba4f3_120 rfl (Nat.le_of_ble_eq_true rfl) (Nat.le_of_ble_eq_true rfl) ⟨F667890, z667885, f667893, rfl, rfl, hfr667895, he667894, (Nat.le_of_ble_eq_true rfl), (Nat.le_of_ble_eq_true rfl), bz667885, bf667893, (fun R c1 c2 c3 c4 => c1 z667763 g667872 g667873 f667874 z667885 z667888 z667889 f667893 r667762 hz667763 hx667883 ez667885 hz667888 hz667889 hf667893 r667897)⟩
          · have r667898 : g667872.toInt < (-9) := gj_nleL hc667896 (show Int32.toInt (-9) = (-9) by decide)
            have bg667872'' : gB g667872 (-99) (-10) := ⟨by omega, by omega⟩
            have x667899 : (2 : Int) ≤ (g667873.toInt - 0) := dgB_2 x667879 (by omega)
            refine G_aload_n 4 dr_cJ6_getChars_ba4f3_91 rfl ?_
            have bz667885' : gB z667885 1 16777215 := ⟨by omega, by omega⟩
            obtain ⟨z667900, hz667900⟩ : ∃ z : Int32, z = z667885 + Int32.ofInt (-1) := ⟨_, rfl⟩
            have ez667900 : z667900.toInt = z667885.toInt + (-1) := gI_inc hz667900 (by decide) bz667885' (by decide) (by decide)
            have bz667900 : gB z667900 0 16777214 := ⟨by omega, by omega⟩
            refine G_iinc (L' := [(5, .int z667900), (0, .int g667872), (6, .int 0), (1, .int p667754), (2, .ref q667752)]) z667900 0 dr_cJ6_getChars_ba4f3_92 rfl hz667900.symm (Nat.le_of_ble_eq_true rfl) rfl ?_
            refine G_iload 0 dr_cJ6_getChars_ba4f3_95 rfl ?_
            refine G_gets dr_cJ6_getChars_ba4f3_97 wr_8_120 gr_te (fun x667902 hx667901 => ?_)
            subst hx667901
            refine G_iload_n 1 dr_cJ6_getChars_ba4f3_100 rfl ?_
            refine G_ineg dr_cJ6_getChars_ba4f3_101 (G_nam fun z667903 hz667903 => ?_)
            have ez667903 : z667903.toInt = -g667872.toInt := gI_neg hz667903 bg667872'' (by decide)
            have bz667903 : gB z667903 10 99 := ⟨by omega, by omega⟩
            refine G_kbald (f := dg_T) dr_cJ6_getChars_ba4f3_102 gr_tet (gB_inr (by omega) (by omega)) (G_nam fun z667904 hz667904 => ?_)
            have bz667904 : gB z667904 (-2147483648) 2147483647 := gB_any z667904
            refine Gp_bast 1 hmq667752 he667894 dr_cJ6_getChars_ba4f3_103 rfl (gB_inr (by omega) (by omega)) (fun F667905 e667906 n667907 => ?_)
            obtain ⟨f667908, hf667908⟩ : ∃ z, z = upd f667893 z667900.toNatClampNeg (vp_nar .byte z667904) := ⟨_, rfl⟩
            rw [← hf667908] at e667906
            have he667909 : F667905 q667752 = .inl (I .byte, n667756, .inl f667908) := e667906
            have hfr667910 : rFr [q667752] P667750 F667751 F667905 := rFr_put' List.mem_cons_self hfr667895 n667907
            have bf667908 : gF f667908 (-128) 127 := gF_upd hf667908 bf667893 gB_byte
            refine G_iload 2 dr_cJ6_getChars_ba4f3_104 rfl ?_
            refine G_if_eq 118 dr_cJ6_getChars_ba4f3_106 (by decide +kernel) (fun _ => ?_) (fun hc => absurd hc (by decide))
            refine G_iload 0 dr_cJ6_getChars_ba4f3_118 rfl ?_
            exact G_iretA dr_cJ6_getChars_ba4f3_120 rfl (Nat.le_of_ble_eq_true rfl) (Nat.le_of_ble_eq_true rfl) ⟨F667905, z667900, f667908, rfl, rfl, hfr667910, he667909, (Nat.le_of_ble_eq_true rfl), (Nat.le_of_ble_eq_true rfl), (gB_w bz667900 (by decide) (by decide)), bf667908, (fun R c1 c2 c3 c4 => c2 z667763 g667872 g667873 f667874 z667885 z667888 z667889 f667893 z667900 z667903 z667904 f667908 r667762 hz667763 hx667883 ez667885 hz667888 hz667889 hf667893 r667898 ez667900 hz667903 hz667904 hf667908)⟩
        · have r667911 : g667872.toInt ≤ (-100) := gj_nltL hc667881 (show Int32.toInt (-100) = (-100) by decide)
          have bg667872' : gB g667872 (-2147483647) (-100) := ⟨by omega, by omega⟩
          have x667912 : (3 : Int) ≤ (g667873.toInt - 0) := dgB_3 x667879 (by omega)
          refine G_iload_n 0 dr_cJ6_getChars_ba4f3_28 rfl ?_
          refine G_bipush 100 dr_cJ6_getChars_ba4f3_29 (by decide +kernel) ?_
          refine G_idiv dr_cJ6_getChars_ba4f3_31 (by decide) (G_nam fun z667913 hz667913 => ?_)
          have ez667913 : z667913.toInt = -((-g667872.toInt) / 100) := gI_divn hz667913 bg667872' (by decide) (by decide) (by decide)
          have bz667913 : gB z667913 (-21474836) (-1) := ⟨by omega, by omega⟩
          refine G_istore_n (L' := [(3, .int z667913), (0, .int g667872), (6, .int 0), (5, .int g667873), (1, .int p667754), (2, .ref q667752)]) dr_cJ6_getChars_ba4f3_32 (Nat.le_of_ble_eq_true rfl) rfl ?_
          refine G_iload_n 0 dr_cJ6_getChars_ba4f3_33 rfl ?_
          refine G_bipush 100 dr_cJ6_getChars_ba4f3_34 (by decide +kernel) ?_
          refine G_imul dr_cJ6_getChars_ba4f3_36 (G_nam fun z667914 hz667914 => ?_)
          have ez667914 : z667914.toInt = z667913.toInt * 100 := gI_mulK hz667914 (by decide) (by omega) (by omega)
          have bz667914 : gB z667914 (-2147483600) (-100) := ⟨by omega, by omega⟩
          refine G_iload_n 1 dr_cJ6_getChars_ba4f3_37 rfl ?_
          refine G_isub dr_cJ6_getChars_ba4f3_38 (G_nam fun z667915 hz667915 => ?_)
          have ez667915 : z667915.toInt = z667914.toInt - g667872.toInt := by rw [gI_sub hz667915 bz667914 bg667872' (by decide) (by decide)]
          have bz667915 : gB z667915 (-2147483500) 2147483547 := gB_sub (gI_sub hz667915 bz667914 bg667872' (by decide) (by decide)) bz667914 bg667872' (by decide) (by decide)
          refine G_istore (L' := [(4, .int z667915), (3, .int z667913), (0, .int g667872), (6, .int 0), (5, .int g667873), (1, .int p667754), (2, .ref q667752)]) dr_cJ6_getChars_ba4f3_39 (Nat.le_of_ble_eq_true rfl) rfl ?_
          refine G_iload_n 1 dr_cJ6_getChars_ba4f3_41 rfl ?_
          refine G_istore_n (L' := [(0, .int z667913), (4, .int z667915), (3, .int z667913), (6, .int 0), (5, .int g667873), (1, .int p667754), (2, .ref q667752)]) dr_cJ6_getChars_ba4f3_42 (Nat.le_of_ble_eq_true rfl) rfl ?_
          refine G_aload_n 6 dr_cJ6_getChars_ba4f3_43 rfl ?_
          have bg667873' : gB g667873 2 16777216 := ⟨by omega, by omega⟩
          obtain ⟨z667916, hz667916⟩ : ∃ z : Int32, z = g667873 + Int32.ofInt (-1) := ⟨_, rfl⟩
          have ez667916 : z667916.toInt = g667873.toInt + (-1) := gI_inc hz667916 (by decide) bg667873' (by decide) (by decide)
          have bz667916 : gB z667916 1 16777215 := ⟨by omega, by omega⟩
          refine G_iinc (L' := [(5, .int z667916), (0, .int z667913), (4, .int z667915), (3, .int z667913), (6, .int 0), (1, .int p667754), (2, .ref q667752)]) z667916 4 dr_cJ6_getChars_ba4f3_44 rfl hz667916.symm (Nat.le_of_ble_eq_true rfl) rfl ?_
          refine G_iload 0 dr_cJ6_getChars_ba4f3_47 rfl ?_
          refine G_gets dr_cJ6_getChars_ba4f3_49 wr_8_118 gr_on (fun x667918 hx667917 => ?_)
          subst hx667917
          refine G_iload 2 dr_cJ6_getChars_ba4f3_52 rfl ?_
          refine G_kbald (f := dg_O) dr_cJ6_getChars_ba4f3_54 gr_ont (gB_inr (by omega) (by omega)) (G_nam fun z667919 hz667919 => ?_)
          have bz667919 : gB z667919 (-2147483648) 2147483647 := gB_any z667919
          refine Gp_bast 1 hmq667752 he667876 dr_cJ6_getChars_ba4f3_55 rfl (gB_inr (by omega) (by omega)) (fun F667920 e667921 n667922 => ?_)
          obtain ⟨f667923, hf667923⟩ : ∃ z, z = upd f667874 z667916.toNatClampNeg (vp_nar .byte z667919) := ⟨_, rfl⟩
          rw [← hf667923] at e667921
          have he667924 : F667920 q667752 = .inl (I .byte, n667756, .inl f667923) := e667921
          have hfr667925 : rFr [q667752] P667750 F667751 F667920 := rFr_put' List.mem_cons_self hfr667877 n667922
          have bf667923 : gF f667923 (-128) 127 := gF_upd hf667923 bf667874 gB_byte
          refine G_aload_n 6 dr_cJ6_getChars_ba4f3_56 rfl ?_
          obtain ⟨z667926, hz667926⟩ : ∃ z : Int32, z = z667916 + Int32.ofInt (-1) := ⟨_, rfl⟩
          have ez667926 : z667926.toInt = z667916.toInt + (-1) := gI_inc hz667926 (by decide) bz667916 (by decide) (by decide)
          have bz667926 : gB z667926 0 16777214 := ⟨by omega, by omega⟩
          refine G_iinc (L' := [(5, .int z667926), (0, .int z667913), (4, .int z667915), (3, .int z667913), (6, .int 0), (1, .int p667754), (2, .ref q667752)]) z667926 0 dr_cJ6_getChars_ba4f3_57 rfl hz667926.symm (Nat.le_of_ble_eq_true rfl) rfl ?_
          refine G_iload 0 dr_cJ6_getChars_ba4f3_60 rfl ?_
          refine G_gets dr_cJ6_getChars_ba4f3_62 wr_8_120 gr_te (fun x667928 hx667927 => ?_)
          subst hx667927
          refine G_iload 2 dr_cJ6_getChars_ba4f3_65 rfl ?_
          refine G_kbald (f := dg_T) dr_cJ6_getChars_ba4f3_67 gr_tet (gB_inr (by omega) (by omega)) (G_nam fun z667929 hz667929 => ?_)
          have bz667929 : gB z667929 (-2147483648) 2147483647 := gB_any z667929
          refine Gp_bast 1 hmq667752 he667924 dr_cJ6_getChars_ba4f3_68 rfl (gB_inr (by omega) (by omega)) (fun F667930 e667931 n667932 => ?_)
          obtain ⟨f667933, hf667933⟩ : ∃ z, z = upd f667923 z667926.toNatClampNeg (vp_nar .byte z667929) := ⟨_, rfl⟩
          rw [← hf667933] at e667931
          have he667934 : F667930 q667752 = .inl (I .byte, n667756, .inl f667933) := e667931
          have hfr667935 : rFr [q667752] P667750 F667751 F667930 := rFr_put' List.mem_cons_self hfr667925 n667932
          have bf667933 : gF f667933 (-128) 127 := gF_upd hf667933 bf667923 gB_byte
          refine G_goto 22 dr_cJ6_getChars_ba4f3_69 (by decide +kernel) ?_
          refine G_lv (L' := [(0, .int z667913), (6, .int 0), (5, .int z667926), (1, .int p667754), (2, .ref q667752)]) [1, 4, 0, 5, 6] rfl ?_
          exact ih22_667880 F667930 z667913 z667926 f667933 (gB_w bz667913 (by decide) (by decide)) (gB_w bz667926 (by decide) (by decide)) bf667933 hfr667935 he667934 (by have qa0 : Int32.toInt 0 = 0 := (by decide); omega) (by have q10 : Int32.toInt 10 = 10 := (by decide); have q11 : Int32.toInt 11 = 11 := (by decide); first | exact dgB_up (dgS_ip x667758 (by omega) (by omega)) (by omega) (by omega) | exact dgB_up (dgS_in x667758 (by omega)) (by omega) (by omega) | exact dgB_up x667879 (by omega) (by omega) | exact dgB_up (dgB_st x667879 (by omega) (by omega) (by omega)) (by omega) (by omega)) (by have qa0 : Int32.toInt 0 = 0 := (by decide); omega) (fun k e1 e2 e3 ht => kt22_667880 k e1 e2 e3 (fun R c1 c2 => c2 g667872 g667873 f667874 z667913 z667914 z667915 z667916 z667919 f667923 z667926 z667929 f667933 k e1 e2 e3 bg667872 bg667873 r667911 ez667913 ez667914 ez667915 ez667916 hz667919 hf667923 ez667926 hz667929 hf667933 (ht R c1 c2))) (by have qa0 : Int32.toInt 0 = 0 := (by decide); omega)
    exact hlp22_667880 ((-z667763.toInt).toNat + 1) F667751 z667763 p667754 f667755 bz667763 bp667754 bf667755 (rFr_v (rFr_rf (W := []) (P := P667750) (F := F667751)) (fun b hn => nm_n)) heq667752 (by have qa0 : Int32.toInt 0 = 0 := (by decide); omega) (by have q10 : Int32.toInt 10 = 10 := (by decide); have q11 : Int32.toInt 11 = 11 := (by decide); first | exact dgB_up (dgS_ip x667758 (by omega) (by omega)) (by omega) (by omega) | exact dgB_up (dgS_in x667758 (by omega)) (by omega) (by omega)) (by have qa0 : Int32.toInt 0 = 0 := (by decide); omega) (fun k e1 e2 e3 ht => ht) (Nat.lt_succ_self _)
  · have r667936 : p667753.toInt < 0 := gj_nleL hc667761 (show Int32.toInt 0 = 0 by decide)
    have bp667753' : gB p667753 (-2147483648) (-1) := ⟨by omega, by omega⟩
    refine G_iconst 1 dr_cJ6_getChars_ba4f3_7 (by decide +kernel) ?_
    refine G_goto 12 dr_cJ6_getChars_ba4f3_8 (by decide +kernel) ?_
    refine G_istore (L' := [(6, .int 1), (5, .int p667754), (0, .int p667753), (1, .int p667754), (2, .ref q667752)]) dr_cJ6_getChars_ba4f3_12 (Nat.le_of_ble_eq_true rfl) rfl ?_
    refine G_iload 0 dr_cJ6_getChars_ba4f3_14 rfl ?_
    refine G_if_ne 22 dr_cJ6_getChars_ba4f3_16 (by decide +kernel) (fun _ => ?_) (fun hc => absurd hc (by decide))
    have hlp22_668081 : ∀ (n22_668081 : Nat) (F668076 : Nat → va_E) (g668073 : Int32) (g668074 : Int32) (f668075 : Nat → Int32), gB g668073 0 16777216 → gB g668074 (-2147483648) (-1) → gF f668075 (-128) 127 → rFr [q667752] P667750 F667751 F668076 → F668076 q667752 = .inl (I .byte, n667756, .inl f668075) → g668074.toInt ≤ 0 → dgB g668074.toInt (g668073.toInt - 1) → g668073.toInt ≤ p667754.toInt → (∀ (k : Nat) (e1 : Int32) (e2 : Int32) (e3 : Nat → Int32), tl_RInteger_getChars_22_2 g668073 g668074 f668075 k e1 e2 e3 → tl_RInteger_getChars_22_2 p667754 p667753 f667755 k e1 e2 e3) → (-g668074.toInt).toNat < n22_668081 → G (gV D I) l (gRm 0 0 0 0) (gMA (gV D I) (pp_667760_Integer_getChars D I P667750 F667751 q667752 p667753 p667754 f667755 n667756) gNA 0 0) ky_667760_Integer_getChars 22 [(6, .int 1), (5, .int g668073), (0, .int g668074), (1, .int p667754), (2, .ref q667752)] [] (va_pl P667750 F668076) 0 0 := by
      intro n22_668081
      induction n22_668081 with
      | zero => intro F668076 g668073 g668074 f668075 bg668073 bg668074 bf668075 hfr668078 he668077 x668079 x668080 x668081 kt22_668081 hm22_668081; exact absurd hm22_668081 (Nat.not_lt_zero _)
      | succ n22_668081 ih22_668081 =>
        intro F668076 g668073 g668074 f668075 bg668073 bg668074 bf668075 hfr668078 he668077 x668079 x668080 x668081 kt22_668081 hm22_668081
        refine G_iload_n 2 dr_cJ6_getChars_ba4f3_22 rfl ?_
        refine G_bipush (-100) dr_cJ6_getChars_ba4f3_23 (by decide +kernel) ?_
        refine G_icmp_gt 72 dr_cJ6_getChars_ba4f3_25 (by decide +kernel) (fun hc668082 => ?_) (fun hc668082 => ?_)
        · have r668083 : (-100) < g668074.toInt := gj_ltL hc668082 (show Int32.toInt (-100) = (-100) by decide)
          have bg668074' : gB g668074 (-99) (-1) := ⟨by omega, by omega⟩
          have hx668084 : tl_RInteger_getChars_22_2 p667754 p667753 f667755 72 g668073 g668074 f668075 := kt22_668081 72 g668073 g668074 f668075 (fun R c1 c2 => c1 g668073 g668074 f668075 bg668073 bg668074 r668083)
          have x668085 : (1 : Int) ≤ (g668073.toInt - 1) := dgB_1 x668080
          refine G_aload_n 4 dr_cJ6_getChars_ba4f3_72 rfl ?_
          have bg668073' : gB g668073 1 16777216 := ⟨by omega, by omega⟩
          obtain ⟨z668086, hz668086⟩ : ∃ z : Int32, z = g668073 + Int32.ofInt (-1) := ⟨_, rfl⟩
          have ez668086 : z668086.toInt = g668073.toInt + (-1) := gI_inc hz668086 (by decide) bg668073' (by decide) (by decide)
          have bz668086 : gB z668086 0 16777215 := ⟨by omega, by omega⟩
          refine G_iinc (L' := [(5, .int z668086), (6, .int 1), (0, .int g668074), (1, .int p667754), (2, .ref q667752)]) z668086 1 dr_cJ6_getChars_ba4f3_73 rfl hz668086.symm (Nat.le_of_ble_eq_true rfl) rfl ?_
          refine G_iload 0 dr_cJ6_getChars_ba4f3_76 rfl ?_
          refine G_gets dr_cJ6_getChars_ba4f3_78 wr_8_118 gr_on (fun x668088 hx668087 => ?_)
          subst hx668087
          refine G_iload_n 2 dr_cJ6_getChars_ba4f3_81 rfl ?_
          refine G_ineg dr_cJ6_getChars_ba4f3_82 (G_nam fun z668089 hz668089 => ?_)
          have ez668089 : z668089.toInt = -g668074.toInt := gI_neg hz668089 bg668074' (by decide)
          have bz668089 : gB z668089 1 99 := ⟨by omega, by omega⟩
          refine G_kbald (f := dg_O) dr_cJ6_getChars_ba4f3_83 gr_ont (gB_inr (by omega) (by omega)) (G_nam fun z668090 hz668090 => ?_)
          have bz668090 : gB z668090 (-2147483648) 2147483647 := gB_any z668090
          refine Gp_bast 1 hmq667752 he668077 dr_cJ6_getChars_ba4f3_84 rfl (gB_inr (by omega) (by omega)) (fun F668091 e668092 n668093 => ?_)
          obtain ⟨f668094, hf668094⟩ : ∃ z, z = upd f668075 z668086.toNatClampNeg (vp_nar .byte z668090) := ⟨_, rfl⟩
          rw [← hf668094] at e668092
          have he668095 : F668091 q667752 = .inl (I .byte, n667756, .inl f668094) := e668092
          have hfr668096 : rFr [q667752] P667750 F667751 F668091 := rFr_put' List.mem_cons_self hfr668078 n668093
          have bf668094 : gF f668094 (-128) 127 := gF_upd hf668094 bf668075 gB_byte
          refine G_iload_n 2 dr_cJ6_getChars_ba4f3_85 rfl ?_
          refine G_bipush (-9) dr_cJ6_getChars_ba4f3_86 (by decide +kernel) ?_
          refine G_icmp_ge 104 dr_cJ6_getChars_ba4f3_88 (by decide +kernel) (fun hc668097 => ?_) (fun hc668097 => ?_)
          · have r668098 : (-9) ≤ g668074.toInt := gj_leL hc668097 (show Int32.toInt (-9) = (-9) by decide)
            have bg668074'' : gB g668074 (-9) (-1) := ⟨by omega, by omega⟩
            refine G_iload 1 dr_cJ6_getChars_ba4f3_104 rfl ?_
            refine G_if_eq 118 dr_cJ6_getChars_ba4f3_106 (by decide +kernel) (fun hc => absurd hc (by decide)) (fun _ => ?_)
            refine G_aload_n 4 dr_cJ6_getChars_ba4f3_109 rfl ?_
            have bz668086' : gB z668086 1 16777215 := ⟨by omega, by omega⟩
            obtain ⟨z668099, hz668099⟩ : ∃ z : Int32, z = z668086 + Int32.ofInt (-1) := ⟨_, rfl⟩
            have ez668099 : z668099.toInt = z668086.toInt + (-1) := gI_inc hz668099 (by decide) bz668086' (by decide) (by decide)
            have bz668099 : gB z668099 0 16777214 := ⟨by omega, by omega⟩
            refine G_iinc (L' := [(5, .int z668099), (6, .int 1), (0, .int g668074), (1, .int p667754), (2, .ref q667752)]) z668099 0 dr_cJ6_getChars_ba4f3_110 rfl hz668099.symm (Nat.le_of_ble_eq_true rfl) rfl ?_
            refine G_iload 0 dr_cJ6_getChars_ba4f3_113 rfl ?_
            refine G_bipush 45 dr_cJ6_getChars_ba4f3_115 (by decide +kernel) ?_
            refine Gp_bast 1 hmq667752 he668095 dr_cJ6_getChars_ba4f3_117 rfl (gB_inr (by omega) (by omega)) (fun F668100 e668101 n668102 => ?_)
            obtain ⟨f668103, hf668103⟩ : ∃ z, z = upd f668094 z668099.toNatClampNeg (vp_nar .byte 45) := ⟨_, rfl⟩
            rw [← hf668103] at e668101
            have he668104 : F668100 q667752 = .inl (I .byte, n667756, .inl f668103) := e668101
            have hfr668105 : rFr [q667752] P667750 F667751 F668100 := rFr_put' List.mem_cons_self hfr668096 n668102
            have bf668103 : gF f668103 (-128) 127 := gF_upd hf668103 bf668094 gB_byte
            refine G_iload 0 dr_cJ6_getChars_ba4f3_118 rfl ?_
            exact G_iretA dr_cJ6_getChars_ba4f3_120 rfl (Nat.le_of_ble_eq_true rfl) (Nat.le_of_ble_eq_true rfl) ⟨F668100, z668099, f668103, rfl, rfl, hfr668105, he668104, (Nat.le_of_ble_eq_true rfl), (Nat.le_of_ble_eq_true rfl), (gB_w bz668099 (by decide) (by decide)), bf668103, (fun R c1 c2 c3 c4 => c3 g668073 g668074 f668075 z668086 z668089 z668090 f668094 z668099 f668103 r667936 hx668084 ez668086 hz668089 hz668090 hf668094 r668098 ez668099 hf668103)⟩
          · have r668106 : g668074.toInt < (-9) := gj_nleL hc668097 (show Int32.toInt (-9) = (-9) by decide)
            have bg668074'' : gB g668074 (-99) (-10) := ⟨by omega, by omega⟩
            have x668107 : (2 : Int) ≤ (g668073.toInt - 1) := dgB_2 x668080 (by omega)
            refine G_aload_n 4 dr_cJ6_getChars_ba4f3_91 rfl ?_
            have bz668086' : gB z668086 1 16777215 := ⟨by omega, by omega⟩
            obtain ⟨z668108, hz668108⟩ : ∃ z : Int32, z = z668086 + Int32.ofInt (-1) := ⟨_, rfl⟩
            have ez668108 : z668108.toInt = z668086.toInt + (-1) := gI_inc hz668108 (by decide) bz668086' (by decide) (by decide)
            have bz668108 : gB z668108 0 16777214 := ⟨by omega, by omega⟩
            refine G_iinc (L' := [(5, .int z668108), (6, .int 1), (0, .int g668074), (1, .int p667754), (2, .ref q667752)]) z668108 0 dr_cJ6_getChars_ba4f3_92 rfl hz668108.symm (Nat.le_of_ble_eq_true rfl) rfl ?_
            refine G_iload 0 dr_cJ6_getChars_ba4f3_95 rfl ?_
            refine G_gets dr_cJ6_getChars_ba4f3_97 wr_8_120 gr_te (fun x668110 hx668109 => ?_)
            subst hx668109
            refine G_iload_n 2 dr_cJ6_getChars_ba4f3_100 rfl ?_
            refine G_ineg dr_cJ6_getChars_ba4f3_101 (G_nam fun z668111 hz668111 => ?_)
            have ez668111 : z668111.toInt = -g668074.toInt := gI_neg hz668111 bg668074'' (by decide)
            have bz668111 : gB z668111 10 99 := ⟨by omega, by omega⟩
            refine G_kbald (f := dg_T) dr_cJ6_getChars_ba4f3_102 gr_tet (gB_inr (by omega) (by omega)) (G_nam fun z668112 hz668112 => ?_)
            have bz668112 : gB z668112 (-2147483648) 2147483647 := gB_any z668112
            refine Gp_bast 1 hmq667752 he668095 dr_cJ6_getChars_ba4f3_103 rfl (gB_inr (by omega) (by omega)) (fun F668113 e668114 n668115 => ?_)
            obtain ⟨f668116, hf668116⟩ : ∃ z, z = upd f668094 z668108.toNatClampNeg (vp_nar .byte z668112) := ⟨_, rfl⟩
            rw [← hf668116] at e668114
            have he668117 : F668113 q667752 = .inl (I .byte, n667756, .inl f668116) := e668114
            have hfr668118 : rFr [q667752] P667750 F667751 F668113 := rFr_put' List.mem_cons_self hfr668096 n668115
            have bf668116 : gF f668116 (-128) 127 := gF_upd hf668116 bf668094 gB_byte
            refine G_iload 1 dr_cJ6_getChars_ba4f3_104 rfl ?_
            refine G_if_eq 118 dr_cJ6_getChars_ba4f3_106 (by decide +kernel) (fun hc => absurd hc (by decide)) (fun _ => ?_)
            refine G_aload_n 4 dr_cJ6_getChars_ba4f3_109 rfl ?_
            have bz668108' : gB z668108 1 16777214 := ⟨by omega, by omega⟩
            obtain ⟨z668119, hz668119⟩ : ∃ z : Int32, z = z668108 + Int32.ofInt (-1) := ⟨_, rfl⟩
            have ez668119 : z668119.toInt = z668108.toInt + (-1) := gI_inc hz668119 (by decide) bz668108' (by decide) (by decide)
            have bz668119 : gB z668119 0 16777213 := ⟨by omega, by omega⟩
            refine G_iinc (L' := [(5, .int z668119), (6, .int 1), (0, .int g668074), (1, .int p667754), (2, .ref q667752)]) z668119 0 dr_cJ6_getChars_ba4f3_110 rfl hz668119.symm (Nat.le_of_ble_eq_true rfl) rfl ?_
            refine G_iload 0 dr_cJ6_getChars_ba4f3_113 rfl ?_
            refine G_bipush 45 dr_cJ6_getChars_ba4f3_115 (by decide +kernel) ?_
            refine Gp_bast 1 hmq667752 he668117 dr_cJ6_getChars_ba4f3_117 rfl (gB_inr (by omega) (by omega)) (fun F668120 e668121 n668122 => ?_)
            obtain ⟨f668123, hf668123⟩ : ∃ z, z = upd f668116 z668119.toNatClampNeg (vp_nar .byte 45) := ⟨_, rfl⟩
            rw [← hf668123] at e668121
            have he668124 : F668120 q667752 = .inl (I .byte, n667756, .inl f668123) := e668121
            have hfr668125 : rFr [q667752] P667750 F667751 F668120 := rFr_put' List.mem_cons_self hfr668118 n668122
            have bf668123 : gF f668123 (-128) 127 := gF_upd hf668123 bf668116 gB_byte
            refine G_iload 0 dr_cJ6_getChars_ba4f3_118 rfl ?_
            exact G_iretA dr_cJ6_getChars_ba4f3_120 rfl (Nat.le_of_ble_eq_true rfl) (Nat.le_of_ble_eq_true rfl) ⟨F668120, z668119, f668123, rfl, rfl, hfr668125, he668124, (Nat.le_of_ble_eq_true rfl), (Nat.le_of_ble_eq_true rfl), (gB_w bz668119 (by decide) (by decide)), bf668123, (fun R c1 c2 c3 c4 => c4 g668073 g668074 f668075 z668086 z668089 z668090 f668094 z668108 z668111 z668112 f668116 z668119 f668123 r667936 hx668084 ez668086 hz668089 hz668090 hf668094 r668106 ez668108 hz668111 hz668112 hf668116 ez668119 hf668123)⟩
        · have r668126 : g668074.toInt ≤ (-100) := gj_nltL hc668082 (show Int32.toInt (-100) = (-100) by decide)
          have bg668074' : gB g668074 (-2147483648) (-100) := ⟨by omega, by omega⟩
          have x668127 : (3 : Int) ≤ (g668073.toInt - 1) := dgB_3 x668080 (by omega)
          refine G_iload_n 2 dr_cJ6_getChars_ba4f3_28 rfl ?_
          refine G_bipush 100 dr_cJ6_getChars_ba4f3_29 (by decide +kernel) ?_
          refine G_idiv dr_cJ6_getChars_ba4f3_31 (by decide) (G_nam fun z668128 hz668128 => ?_)
          have ez668128 : z668128.toInt = -((-g668074.toInt) / 100) := gI_divn hz668128 bg668074' (by decide) (by decide) (by decide)
          have bz668128 : gB z668128 (-21474836) (-1) := ⟨by omega, by omega⟩
          refine G_istore_n (L' := [(3, .int z668128), (6, .int 1), (5, .int g668073), (0, .int g668074), (1, .int p667754), (2, .ref q667752)]) dr_cJ6_getChars_ba4f3_32 (Nat.le_of_ble_eq_true rfl) rfl ?_
          refine G_iload_n 0 dr_cJ6_getChars_ba4f3_33 rfl ?_
          refine G_bipush 100 dr_cJ6_getChars_ba4f3_34 (by decide +kernel) ?_
          refine G_imul dr_cJ6_getChars_ba4f3_36 (G_nam fun z668129 hz668129 => ?_)
          have ez668129 : z668129.toInt = z668128.toInt * 100 := gI_mulK hz668129 (by decide) (by omega) (by omega)
          have bz668129 : gB z668129 (-2147483600) (-100) := ⟨by omega, by omega⟩
          refine G_iload_n 3 dr_cJ6_getChars_ba4f3_37 rfl ?_
          refine G_isub dr_cJ6_getChars_ba4f3_38 (G_nam fun z668130 hz668130 => ?_)
          have ez668130 : z668130.toInt = z668129.toInt - g668074.toInt := by rw [gI_sub hz668130 bz668129 bg668074' (by decide) (by decide)]
          have bz668130 : gB z668130 (-2147483500) 2147483548 := gB_sub (gI_sub hz668130 bz668129 bg668074' (by decide) (by decide)) bz668129 bg668074' (by decide) (by decide)
          refine G_istore (L' := [(4, .int z668130), (3, .int z668128), (6, .int 1), (5, .int g668073), (0, .int g668074), (1, .int p667754), (2, .ref q667752)]) dr_cJ6_getChars_ba4f3_39 (Nat.le_of_ble_eq_true rfl) rfl ?_
          refine G_iload_n 1 dr_cJ6_getChars_ba4f3_41 rfl ?_
          refine G_istore_n (L' := [(0, .int z668128), (4, .int z668130), (3, .int z668128), (6, .int 1), (5, .int g668073), (1, .int p667754), (2, .ref q667752)]) dr_cJ6_getChars_ba4f3_42 (Nat.le_of_ble_eq_true rfl) rfl ?_
          refine G_aload_n 6 dr_cJ6_getChars_ba4f3_43 rfl ?_
          have bg668073' : gB g668073 2 16777216 := ⟨by omega, by omega⟩
          obtain ⟨z668131, hz668131⟩ : ∃ z : Int32, z = g668073 + Int32.ofInt (-1) := ⟨_, rfl⟩
          have ez668131 : z668131.toInt = g668073.toInt + (-1) := gI_inc hz668131 (by decide) bg668073' (by decide) (by decide)
          have bz668131 : gB z668131 1 16777215 := ⟨by omega, by omega⟩
          refine G_iinc (L' := [(5, .int z668131), (0, .int z668128), (4, .int z668130), (3, .int z668128), (6, .int 1), (1, .int p667754), (2, .ref q667752)]) z668131 4 dr_cJ6_getChars_ba4f3_44 rfl hz668131.symm (Nat.le_of_ble_eq_true rfl) rfl ?_
          refine G_iload 0 dr_cJ6_getChars_ba4f3_47 rfl ?_
          refine G_gets dr_cJ6_getChars_ba4f3_49 wr_8_118 gr_on (fun x668133 hx668132 => ?_)
          subst hx668132
          refine G_iload 2 dr_cJ6_getChars_ba4f3_52 rfl ?_
          refine G_kbald (f := dg_O) dr_cJ6_getChars_ba4f3_54 gr_ont (gB_inr (by omega) (by omega)) (G_nam fun z668134 hz668134 => ?_)
          have bz668134 : gB z668134 (-2147483648) 2147483647 := gB_any z668134
          refine Gp_bast 1 hmq667752 he668077 dr_cJ6_getChars_ba4f3_55 rfl (gB_inr (by omega) (by omega)) (fun F668135 e668136 n668137 => ?_)
          obtain ⟨f668138, hf668138⟩ : ∃ z, z = upd f668075 z668131.toNatClampNeg (vp_nar .byte z668134) := ⟨_, rfl⟩
          rw [← hf668138] at e668136
          have he668139 : F668135 q667752 = .inl (I .byte, n667756, .inl f668138) := e668136
          have hfr668140 : rFr [q667752] P667750 F667751 F668135 := rFr_put' List.mem_cons_self hfr668078 n668137
          have bf668138 : gF f668138 (-128) 127 := gF_upd hf668138 bf668075 gB_byte
          refine G_aload_n 6 dr_cJ6_getChars_ba4f3_56 rfl ?_
          obtain ⟨z668141, hz668141⟩ : ∃ z : Int32, z = z668131 + Int32.ofInt (-1) := ⟨_, rfl⟩
          have ez668141 : z668141.toInt = z668131.toInt + (-1) := gI_inc hz668141 (by decide) bz668131 (by decide) (by decide)
          have bz668141 : gB z668141 0 16777214 := ⟨by omega, by omega⟩
          refine G_iinc (L' := [(5, .int z668141), (0, .int z668128), (4, .int z668130), (3, .int z668128), (6, .int 1), (1, .int p667754), (2, .ref q667752)]) z668141 0 dr_cJ6_getChars_ba4f3_57 rfl hz668141.symm (Nat.le_of_ble_eq_true rfl) rfl ?_
          refine G_iload 0 dr_cJ6_getChars_ba4f3_60 rfl ?_
          refine G_gets dr_cJ6_getChars_ba4f3_62 wr_8_120 gr_te (fun x668143 hx668142 => ?_)
          subst hx668142
          refine G_iload 2 dr_cJ6_getChars_ba4f3_65 rfl ?_
          refine G_kbald (f := dg_T) dr_cJ6_getChars_ba4f3_67 gr_tet (gB_inr (by omega) (by omega)) (G_nam fun z668144 hz668144 => ?_)
          have bz668144 : gB z668144 (-2147483648) 2147483647 := gB_any z668144
          refine Gp_bast 1 hmq667752 he668139 dr_cJ6_getChars_ba4f3_68 rfl (gB_inr (by omega) (by omega)) (fun F668145 e668146 n668147 => ?_)
          obtain ⟨f668148, hf668148⟩ : ∃ z, z = upd f668138 z668141.toNatClampNeg (vp_nar .byte z668144) := ⟨_, rfl⟩
          rw [← hf668148] at e668146
          have he668149 : F668145 q667752 = .inl (I .byte, n667756, .inl f668148) := e668146
          have hfr668150 : rFr [q667752] P667750 F667751 F668145 := rFr_put' List.mem_cons_self hfr668140 n668147
          have bf668148 : gF f668148 (-128) 127 := gF_upd hf668148 bf668138 gB_byte
          refine G_goto 22 dr_cJ6_getChars_ba4f3_69 (by decide +kernel) ?_
          refine G_lv (L' := [(6, .int 1), (5, .int z668141), (0, .int z668128), (1, .int p667754), (2, .ref q667752)]) [4, 0, 1, 5, 6] rfl ?_
          exact ih22_668081 F668145 z668141 z668128 f668148 (gB_w bz668141 (by decide) (by decide)) (gB_w bz668128 (by decide) (by decide)) bf668148 hfr668150 he668149 (by have qa0 : Int32.toInt 1 = 1 := (by decide); omega) (by have q10 : Int32.toInt 10 = 10 := (by decide); have q11 : Int32.toInt 11 = 11 := (by decide); first | exact dgB_up (dgS_ip x667758 (by omega) (by omega)) (by omega) (by omega) | exact dgB_up (dgS_in x667758 (by omega)) (by omega) (by omega) | exact dgB_up x668080 (by omega) (by omega) | exact dgB_up (dgB_st x668080 (by omega) (by omega) (by omega)) (by omega) (by omega)) (by have qa0 : Int32.toInt 1 = 1 := (by decide); omega) (fun k e1 e2 e3 ht => kt22_668081 k e1 e2 e3 (fun R c1 c2 => c2 g668073 g668074 f668075 z668128 z668129 z668130 z668131 z668134 f668138 z668141 z668144 f668148 k e1 e2 e3 bg668073 bg668074 r668126 ez668128 ez668129 ez668130 ez668131 hz668134 hf668138 ez668141 hz668144 hf668148 (ht R c1 c2))) (by have qa0 : Int32.toInt 1 = 1 := (by decide); omega)
    exact hlp22_668081 ((-p667753.toInt).toNat + 1) F667751 p667754 p667753 f667755 bp667754 bp667753' bf667755 (rFr_v (rFr_rf (W := []) (P := P667750) (F := F667751)) (fun b hn => nm_n)) heq667752 (by have qa0 : Int32.toInt 1 = 1 := (by decide); omega) (by have q10 : Int32.toInt 10 = 10 := (by decide); have q11 : Int32.toInt 11 = 11 := (by decide); first | exact dgB_up (dgS_ip x667758 (by omega) (by omega)) (by omega) (by omega) | exact dgB_up (dgS_in x667758 (by omega)) (by omega) (by omega)) (by have qa0 : Int32.toInt 1 = 1 := (by decide); omega) (fun k e1 e2 e3 ht => ht) (Nat.lt_succ_self _)
/- tr_RAbstractStringBuilder_append7: a.0...count, a.0.value.#, a.0.value.[] -/
def tr_RAbstractStringBuilder_append7 (a1 : Int32) (a0_count : Int32) (a0_value_v : Nat → Int32) (a0_value_n : Nat) (o1 : Int32) (o2 : Nat) (o3 : Nat → Int32) : Prop := ∀ R : (Int32) → (Nat) → (Nat → Int32) → Prop,
  (∀ (x1 : Int32) (x2 : Int32) (x3 : Nat) (x4 : Nat → Int32) (x5 : Int32) (x6 : Nat → Int32), gB x1 1 11 → tr_RInteger_stringSize a1 x1 → x2.toInt = a0_count.toInt + x1.toInt → tr_RAbstractStringBuilder_ensureCapacityInternal2 x2 a0_value_v a0_value_n x3 x4 → gB x5 0 16777215 → tr_RInteger_getChars a1 x2 x4 x5 x6 → R x2 x3 x6) →
  R o1 o2 o3
abbrev ky_667573_AbstractStringBuilder_append : gKey := (cJ5_append_c97b9, 4, "java/lang/AbstractStringBuilder", (some (FieldType.object "java/lang/AbstractStringBuilder")), [], "append", fun _ _ => True)
def pp_667573_AbstractStringBuilder_append (D : va_G) (I : FieldType → ClassId) (P667561 : List Nat) (F667562 : Nat → va_E) (q667563 : Nat) (q667564 : Nat) (p667565 : Int32) (p667566 : Int32) (p667567 : Int32) (f667568 : Nat → Int32) (n667569 : Nat) : Option Value → va_W → Nat → Nat → Prop := fun r w dc ds => ∃ (P668179 : List Nat) (F668180 : Nat → va_E) (o668175 : Int32) (q668176 : Nat) (n668177 : Nat) (f668178 : Nat → Int32), r = some (.ref q667563) ∧ w = va_pl P668179 F668180 ∧ rSub P667561 P668179 ∧ rFr [q667563, q667564] P667561 F667562 F668180 ∧ F668180 q667563 = .inr (1, [.ref q668176, .int 0, .int p667566, .int o668175]) ∧ F668180 q668176 = .inl (I .byte, n668177, .inl f668178) ∧ q668176 ∈ P668179 ∧ (q668176 = q667564 ∨ q668176 ∉ P667561) ∧ dc ≤ 1 ∧ ds ≤ 2 * (n668177 - n667569) ∧ gB o668175 1 16777216 ∧ gF f668178 (-128) 127 ∧ p667567.toInt ≤ o668175.toInt ∧ o668175.toInt ≤ p667567.toInt + 11 ∧ o668175.toInt ≤ (n668177 : Int) ∧ (n667569 : Int) ≤ (n668177 : Int) ∧ ((n668177 : Int) ≤ 2 * (n667569 : Int) + 2 ∨ (n668177 : Int) ≤ p667567.toInt + 11) ∧ tr_RAbstractStringBuilder_append7 p667565 p667567 f667568 n667569 o668175 n668177 f668178
set_option maxRecDepth 100000 in
set_option maxHeartbeats 4000000 in
theorem cp_667573_AbstractStringBuilder_append (l : Launch) (hl0 : l.stackTraces = false) (D : va_G) (I : FieldType → ClassId) (P667561 : List Nat) (F667562 : Nat → va_E) (q667563 : Nat) (q667564 : Nat) (p667565 : Int32) (p667566 : Int32) (p667567 : Int32) (f667568 : Nat → Int32) (n667569 : Nat) (hmq667563 : q667563 ∈ P667561) (hmq667564 : q667564 ∈ P667561) (heq667563 : F667562 q667563 = .inr (1, [.ref q667564, .int 0, .int p667566, .int p667567])) (heq667564 : F667562 q667564 = .inl (I .byte, n667569, .inl f667568)) (bp667566 : gB p667566 0 1) (bp667567 : gB p667567 0 16777216) (bf667568 : gF f667568 (-128) 127) (x667570 : (n667569 : Int) ≤ 8388608 - 100000) (x667571 : p667567.toInt ≤ (n667569 : Int)) (x667572 : ((n667569 : Int) ≤ 16777216)) : CtA (gV D I) l yJ5_append_c97b9 cJ5_append_c97b9 4 (some (FieldType.object "java/lang/AbstractStringBuilder")) 4 84 1 (4 * n667569 + 64) [.ref q667563, .int p667565] (va_pl P667561 F667562) (pp_667573_AbstractStringBuilder_append D I P667561 F667562 q667563 q667564 p667565 p667566 p667567 f667568 n667569) gNA := by
  refine CtA_ofF hl0 (by decide +kernel) (Nat.le_of_ble_eq_true rfl) ?_
  have bp667565 := gB_any p667565
  refine G_aload_n 0 dr_cJ5_append_c97b9_0 rfl ?_
  refine Gp_get 3 hmq667563 heq667563 dr_cJ5_append_c97b9_1 (gk_J4 D I) (Nat.le_of_ble_eq_true rfl) wr_7_64 rfl ?_
  refine G_istore_n (L' := [(2, .int p667567), (0, .ref q667563), (1, .int p667565)]) dr_cJ5_append_c97b9_4 (Nat.le_of_ble_eq_true rfl) rfl ?_
  refine G_iload_n 0 dr_cJ5_append_c97b9_5 rfl ?_
  refine G_iload_n 2 dr_cJ5_append_c97b9_6 rfl ?_
  refine Gw_callS (As := [.int p667565]) (gV_ok D I) (cp_667577_Integer_stringSize l hl0 D I P667561 F667562 p667565 ) dr_cJ5_append_c97b9_7 ⟨wr_8_112, wr_1_35, wr_8_114, by decide, rfl, (Nat.le_of_ble_eq_true rfl), (Nat.le_of_ble_eq_true rfl)⟩ wr_8_113 (show 0 + 0 ≤ 1 by first | omega | decide) (show 0 + 0 ≤ (4 * n667569 + 64) by first | omega | decide) (Nat.le_of_ble_eq_true rfl) (fun r667712 w667713 dc667709 ds667710 hp667711 => ?_) (fun _ _ _ _ _ z => z.elim)
  obtain ⟨o667714, rfl, rfl, hdc, hds, bo667714, x667715, ht667716⟩ := hp667711
  change G _ _ _ _ _ _ _ (.int o667714 :: _) _ _ _
  refine G_widen (cs' := 0) (sl' := 0) (by omega) (by omega) ?_
  refine G_iadd dr_cJ5_append_c97b9_10 (G_nam fun z667717 hz667717 => ?_)
  have ez667717 : z667717.toInt = p667567.toInt + o667714.toInt := by rw [gI_add hz667717 bp667567 bo667714 (by decide) (by decide)]
  have bz667717 : gB z667717 1 16777227 := gB_add (gI_add hz667717 bp667567 bo667714 (by decide) (by decide)) bp667567 bo667714 (by decide) (by decide)
  refine G_istore_n (L' := [(3, .int z667717), (2, .int p667567), (0, .ref q667563), (1, .int p667565)]) dr_cJ5_append_c97b9_11 (Nat.le_of_ble_eq_true rfl) rfl ?_
  refine G_aload_n 2 dr_cJ5_append_c97b9_12 rfl ?_
  refine G_iload_n 0 dr_cJ5_append_c97b9_13 rfl ?_
  refine Gw_callVB (As := [.int z667717]) (gV_ok D I) (cp_658822_AbstractStringBuilder_ensureCapacityInternal l hl0 D I P667561 F667562 q667563 q667564 z667717 p667566 p667567 f667568 n667569 hmq667563 hmq667564 heq667563 heq667564 ⟨by omega, by omega⟩ bp667566 bp667567 bf667568 (by have qa0 : Int32.toInt 0 = 0 := (by decide); omega) (by have qa0 : Int32.toInt 0 = 0 := (by decide); omega)) dr_cJ5_append_c97b9_14 ⟨wr_8_4, wr_1_19, wr_8_7, by decide, rfl, (Nat.le_of_ble_eq_true rfl), (Nat.le_of_ble_eq_true rfl)⟩ wr_8_6 wr_s_0 hmq667563 heq667563 rfl (show 0 + 1 ≤ 1 by first | omega | decide) (show 0 + (2 * n667569 + 2 + z667717.toInt.toNat) ≤ (4 * n667569 + 64) by first | omega | decide) (Nat.le_of_ble_eq_true rfl) (fun r667721 w667722 dc667718 ds667719 hp667720 => ?_) (fun _ _ _ _ _ z => z.elim)
  obtain ⟨P667731, F667732, q667723, n667724, f667725, rfl, rfl, hsb667733, hfr667734, he667735, he667736, hm667737, hq667738, hdc, hds, bf667725, x667726, x667727, x667728, x667729, ht667730⟩ := hp667720
  have hm667739 : q667563 ∈ P667731 := hsb667733 q667563 hmq667563
  have hm667740 : q667564 ∈ P667731 := hsb667733 q667564 hmq667564
  have hor667741 : q667723 = q667564 ∨ q667723 ∉ P667561 := hq667738.elim Or.inl (fun n => Or.inr (fun z => n ((rSub_rf (P := P667561)) _ z)))
  have hsb667742 : rSub P667561 P667731 := rSub_tr (rSub_rf (P := P667561)) hsb667733
  have he667743 : F667732 q667564 = .inl (I .byte, n667569, .inl f667568) := (hfr667734 q667564 hmq667564 (nm_c (rn_ao heq667564 heq667563) nm_n)).trans heq667564
  have hfr667744 : rFr [q667563] P667561 F667562 F667732 := rFr_call (rSub_rf (P := P667561)) (rFr_rf (W := []) (P := P667561) (F := F667562)) hfr667734 (fun b hb hn => ⟨nm_n, (nm_c (fun e => hn (e ▸ List.mem_cons_self)) nm_n)⟩)
  change G _ _ _ _ _ _ _ _ _ _ _
  refine G_widen (cs' := 1) (sl' := 2 * (n667724 - n667569)) (by omega) (by omega) ?_
  refine G_aload_n 2 dr_cJ5_append_c97b9_17 rfl ?_
  refine Gw_callVB (As := []) (gV_ok D I) (cp_658723_AbstractStringBuilder_isLatin1 l hl0 D I P667731 F667732 q667563 q667723 p667566 p667567 f667725 n667724 hm667739 hm667737 he667735 he667736 bp667566 bp667567 bf667725 (by have qa0 : Int32.toInt 0 = 0 := (by decide); omega)) dr_cJ5_append_c97b9_18 ⟨wr_8_33, wr_1_19, wr_8_37, by decide, rfl, (Nat.le_of_ble_eq_true rfl), (Nat.le_of_ble_eq_true rfl)⟩ wr_8_34 wr_8_36 hm667739 he667735 rfl (show 1 + 0 ≤ 1 by first | omega | decide) (show 2 * (n667724 - n667569) + 0 ≤ (4 * n667569 + 64) by first | omega | decide) (Nat.le_of_ble_eq_true rfl) (fun r667748 w667749 dc667745 ds667746 hp667747 => ?_) (fun _ _ _ _ _ z => z.elim)
  obtain ⟨rfl, rfl, hdc, hds⟩ := hp667747
  change G _ _ _ _ _ _ _ (.int 1 :: _) _ _ _
  refine G_widen (cs' := 1) (sl' := 2 * (n667724 - n667569) + 0) (by omega) (by omega) ?_
  refine G_if_eq 37 dr_cJ5_append_c97b9_21 (by decide +kernel) (fun hc => absurd hc (by decide)) (fun _ => ?_)
  refine G_iload_n 3 dr_cJ5_append_c97b9_24 rfl ?_
  refine G_iload_n 0 dr_cJ5_append_c97b9_25 rfl ?_
  refine G_aload_n 2 dr_cJ5_append_c97b9_26 rfl ?_
  refine Gp_get 0 hm667739 he667735 dr_cJ5_append_c97b9_27 (gk_J4 D I) (Nat.le_of_ble_eq_true rfl) wr_7_60 rfl ?_
  refine Gw_callS (As := [.int p667565, .int z667717, .ref q667723]) (gV_ok D I) (cp_667760_Integer_getChars l hl0 D I P667731 F667732 q667723 p667565 z667717 f667725 n667724 hm667737 he667736 ⟨by omega, by omega⟩ bf667725 (by have qa0 : Int32.toInt 0 = 0 := (by decide); omega) (by have q10 : Int32.toInt 10 = 10 := (by decide); have q11 : Int32.toInt 11 = 11 := (by decide); first | exact dgS_up (by omega) (by omega) x667715 (by omega)) (by have qa0 : Int32.toInt 0 = 0 := (by decide); omega)) dr_cJ5_append_c97b9_30 ⟨wr_8_115, wr_1_35, wr_8_117, by decide, rfl, (Nat.le_of_ble_eq_true rfl), (Nat.le_of_ble_eq_true rfl)⟩ wr_8_116 (show 1 + 0 ≤ 1 by first | omega | decide) (show 2 * (n667724 - n667569) + 0 + 0 ≤ (4 * n667569 + 64) by first | omega | decide) (Nat.le_of_ble_eq_true rfl) (fun r668158 w668159 dc668155 ds668156 hp668157 => ?_) (fun _ _ _ _ _ z => z.elim)
  obtain ⟨F668163, o668160, f668161, rfl, rfl, hfr668165, he668166, hdc, hds, bo668160, bf668161, ht668162⟩ := hp668157
  have he668167 : F668163 q667563 = .inr (1, [.ref q667723, .int 0, .int p667566, .int p667567]) := (hfr668165 q667563 hm667739 (nm_c (rn_oa he667735 he667736) nm_n)).trans he667735
  have hfr668168 : rFr [q667563, q667564] P667561 F667562 F668163 := rFr_call hsb667742 hfr667744 hfr668165 (fun b hb hn => ⟨(nm_c (fun e => hn (e ▸ List.mem_cons_self)) nm_n), (nm_c (fun e => hor667741.elim (fun e2 => hn ((e.trans e2) ▸ (List.mem_cons_of_mem _ List.mem_cons_self))) (fun n => n (e ▸ hb))) nm_n)⟩)
  change G _ _ _ _ _ _ _ (.int o668160 :: _) _ _ _
  refine G_widen (cs' := 1) (sl' := 2 * (n667724 - n667569) + 0 + 0) (by omega) (by omega) ?_
  refine G_pop dr_cJ5_append_c97b9_33 rfl ?_
  refine G_goto 48 dr_cJ5_append_c97b9_34 (by decide +kernel) ?_
  refine G_aload_n 2 dr_cJ5_append_c97b9_48 rfl ?_
  refine G_iload_n 0 dr_cJ5_append_c97b9_49 rfl ?_
  refine Gp_put 3 hm667739 he668167 dr_cJ5_append_c97b9_50 (gk_J4 D I) (Nat.le_of_ble_eq_true rfl) wr_7_64 rfl rfl rfl (Nat.le_of_ble_eq_true rfl) (fun F668169 e668170 n668171 => ?_)
  have he668172 : F668169 q667723 = .inl (I .byte, n667724, .inl f668161) := (n668171 q667723 (rn_ao he668166 he668167)).trans he668166
  have he668173 : F668169 q667563 = .inr (1, [.ref q667723, .int 0, .int p667566, .int z667717]) := e668170
  have hfr668174 : rFr [q667563, q667564] P667561 F667562 F668169 := rFr_put' List.mem_cons_self hfr668168 n668171
  refine G_aload_n 2 dr_cJ5_append_c97b9_53 rfl ?_
  exact G_aretA (FieldType.object "java/lang/AbstractStringBuilder") dr_cJ5_append_c97b9_54 rfl (by first | exact Or.inl ⟨_, rfl⟩ | exact Or.inr ⟨_, rfl⟩) (Or.inr ⟨_, rfl⟩) (Nat.le_of_ble_eq_true rfl) (show 2 * (n667724 - n667569) + 0 + 0 ≤ (4 * n667569 + 64) by omega) ⟨P667731, F668169, z667717, q667723, n667724, f668161, rfl, rfl, hsb667742, hfr668174, he668173, he668172, hm667737, hor667741, (Nat.le_of_ble_eq_true rfl), (by omega), ⟨by omega, by omega⟩, bf668161, (by have qa0 : Int32.toInt 0 = 0 := (by decide); omega), (by have qa0 : Int32.toInt 0 = 0 := (by decide); omega), (by have qa0 : Int32.toInt 0 = 0 := (by decide); omega), (by have qa0 : Int32.toInt 0 = 0 := (by decide); omega), (by have qa0 : Int32.toInt 0 = 0 := (by decide); omega), (fun R c1 => c1 o667714 z667717 n667724 f667725 o668160 f668161 bo667714 ht667716 ez667717 ht667730 bo668160 ht668162)⟩
/- tr_RStringBuilder_append7: a.0...count, a.0.value.#, a.0.value.[] -/
def tr_RStringBuilder_append7 (a1 : Int32) (a0_count : Int32) (a0_value_v : Nat → Int32) (a0_value_n : Nat) (o1 : Int32) (o2 : Nat) (o3 : Nat → Int32) : Prop := ∀ R : (Int32) → (Nat) → (Nat → Int32) → Prop,
  (∀ (x1 : Int32) (x2 : Nat) (x3 : Nat → Int32), gB x1 1 16777216 → tr_RAbstractStringBuilder_append7 a1 a0_count a0_value_v a0_value_n x1 x2 x3 → R x1 x2 x3) →
  R o1 o2 o3
abbrev ky_667560_StringBuilder_append : gKey := (cJ4_append_bf812, 2, "java/lang/StringBuilder", (some (FieldType.object "java/lang/StringBuilder")), [], "append", fun _ _ => True)
def pp_667560_StringBuilder_append (D : va_G) (I : FieldType → ClassId) (P667548 : List Nat) (F667549 : Nat → va_E) (q667550 : Nat) (q667551 : Nat) (p667552 : Int32) (p667553 : Int32) (p667554 : Int32) (f667555 : Nat → Int32) (n667556 : Nat) : Option Value → va_W → Nat → Nat → Prop := fun r w dc ds => ∃ (P668213 : List Nat) (F668214 : Nat → va_E) (o668209 : Int32) (q668210 : Nat) (n668211 : Nat) (f668212 : Nat → Int32), r = some (.ref q667550) ∧ w = va_pl P668213 F668214 ∧ rSub P667548 P668213 ∧ rFr [q667550, q667551] P667548 F667549 F668214 ∧ F668214 q667550 = .inr (1, [.ref q668210, .int 0, .int p667553, .int o668209]) ∧ F668214 q668210 = .inl (I .byte, n668211, .inl f668212) ∧ q668210 ∈ P668213 ∧ (q668210 = q667551 ∨ q668210 ∉ P667548) ∧ dc ≤ 1 ∧ ds ≤ 2 * (n668211 - n667556) ∧ gB o668209 1 16777216 ∧ gF f668212 (-128) 127 ∧ p667554.toInt ≤ o668209.toInt ∧ o668209.toInt ≤ p667554.toInt + 11 ∧ o668209.toInt ≤ (n668211 : Int) ∧ (n667556 : Int) ≤ (n668211 : Int) ∧ ((n668211 : Int) ≤ 2 * (n667556 : Int) + 2 ∨ (n668211 : Int) ≤ p667554.toInt + 11) ∧ tr_RStringBuilder_append7 p667552 p667554 f667555 n667556 o668209 n668211 f668212
set_option maxRecDepth 100000 in
set_option maxHeartbeats 4000000 in
theorem cp_667560_StringBuilder_append (l : Launch) (hl0 : l.stackTraces = false) (D : va_G) (I : FieldType → ClassId) (P667548 : List Nat) (F667549 : Nat → va_E) (q667550 : Nat) (q667551 : Nat) (p667552 : Int32) (p667553 : Int32) (p667554 : Int32) (f667555 : Nat → Int32) (n667556 : Nat) (hmq667550 : q667550 ∈ P667548) (hmq667551 : q667551 ∈ P667548) (heq667550 : F667549 q667550 = .inr (1, [.ref q667551, .int 0, .int p667553, .int p667554])) (heq667551 : F667549 q667551 = .inl (I .byte, n667556, .inl f667555)) (bp667553 : gB p667553 0 1) (bp667554 : gB p667554 0 16777216) (bf667555 : gF f667555 (-128) 127) (x667557 : (n667556 : Int) ≤ 8388608 - 100000) (x667558 : p667554.toInt ≤ (n667556 : Int)) (x667559 : ((n667556 : Int) ≤ 16777216)) : CtA (gV D I) l yJ4_append_bf812 cJ4_append_bf812 2 (some (FieldType.object "java/lang/StringBuilder")) 5 107 1 (4 * n667556 + 64) [.ref q667550, .int p667552] (va_pl P667548 F667549) (pp_667560_StringBuilder_append D I P667548 F667549 q667550 q667551 p667552 p667553 p667554 f667555 n667556) gNA := by
  refine CtA_ofF hl0 (by decide +kernel) (Nat.le_of_ble_eq_true rfl) ?_
  have bp667552 := gB_any p667552
  refine G_aload_n 0 dr_cJ4_append_bf812_0 rfl ?_
  refine G_iload_n 1 dr_cJ4_append_bf812_1 rfl ?_
  refine Gw_callSU (As := [.int p667552]) (gV_ok D I) (cp_667573_AbstractStringBuilder_append l hl0 D I P667548 F667549 q667550 q667551 p667552 p667553 p667554 f667555 n667556 hmq667550 hmq667551 heq667550 heq667551 bp667553 bp667554 bf667555 (by have qa0 : Int32.toInt 0 = 0 := (by decide); omega) (by have qa0 : Int32.toInt 0 = 0 := (by decide); omega) (by have qa0 : Int32.toInt 0 = 0 := (by decide); omega)) dr_cJ4_append_bf812_2 ⟨wr_8_109, wr_1_19, wr_8_111, by decide, rfl, (Nat.le_of_ble_eq_true rfl), (Nat.le_of_ble_eq_true rfl)⟩ wr_8_110 wr_11_228 wr_7_73 wr_7_44 (by decide) hmq667550 heq667550 rfl (show 0 + 1 ≤ 1 by first | omega | decide) (show 0 + (4 * n667556 + 64) ≤ (4 * n667556 + 64) by first | omega | decide) (Nat.le_of_ble_eq_true rfl) (fun r668184 w668185 dc668181 ds668182 hp668183 => ?_)
  obtain ⟨P668196, F668197, o668186, q668187, n668188, f668189, rfl, rfl, hsb668198, hfr668199, he668200, he668201, hm668202, hq668203, hdc, hds, bo668186, bf668189, x668190, x668191, x668192, x668193, x668194, ht668195⟩ := hp668183
  have hm668204 : q667550 ∈ P668196 := hsb668198 q667550 hmq667550
  have hm668205 : q667551 ∈ P668196 := hsb668198 q667551 hmq667551
  have hor668206 : q668187 = q667551 ∨ q668187 ∉ P667548 := hq668203.elim Or.inl (fun n => Or.inr (fun z => n ((rSub_rf (P := P667548)) _ z)))
  have hsb668207 : rSub P667548 P668196 := rSub_tr (rSub_rf (P := P667548)) hsb668198
  have hfr668208 : rFr [q667550, q667551] P667548 F667549 F668197 := rFr_call (rSub_rf (P := P667548)) (rFr_rf (W := []) (P := P667548) (F := F667549)) hfr668199 (fun b hb hn => ⟨nm_n, (nm_c (fun e => hn (e ▸ List.mem_cons_self)) (nm_c (fun e => hn (e ▸ (List.mem_cons_of_mem _ List.mem_cons_self))) nm_n))⟩)
  change G _ _ _ _ _ _ _ (.ref q667550 :: _) _ _ _
  refine G_widen (cs' := 1) (sl' := 2 * (n668188 - n667556)) (by omega) (by omega) ?_
  refine G_pop dr_cJ4_append_bf812_5 rfl ?_
  refine G_aload_n 0 dr_cJ4_append_bf812_6 rfl ?_
  exact G_aretA (FieldType.object "java/lang/StringBuilder") dr_cJ4_append_bf812_7 rfl (by first | exact Or.inl ⟨_, rfl⟩ | exact Or.inr ⟨_, rfl⟩) (Or.inr ⟨_, rfl⟩) (Nat.le_of_ble_eq_true rfl) (show 2 * (n668188 - n667556) ≤ (4 * n667556 + 64) by omega) ⟨P668196, F668197, o668186, q668187, n668188, f668189, rfl, rfl, hsb668207, hfr668208, he668200, he668201, hm668202, hor668206, (Nat.le_of_ble_eq_true rfl), (by omega), bo668186, bf668189, (by have qa0 : Int32.toInt 0 = 0 := (by decide); omega), (by have qa0 : Int32.toInt 0 = 0 := (by decide); omega), (by have qa0 : Int32.toInt 0 = 0 := (by decide); omega), (by have qa0 : Int32.toInt 0 = 0 := (by decide); omega), (by have qa0 : Int32.toInt 0 = 0 := (by decide); omega), (fun R c1 => c1 o668186 n668188 f668189 bo668186 ht668195)⟩
/- tr_RReader_isDigit2: result -/
def tr_RReader_isDigit2 (a0 : Int32) (o1 : Int32) : Prop := ∀ R : (Int32) → Prop,
  (a0.toInt < 48 → R (0 : Int32)) →
  (48 ≤ a0.toInt → 57 < a0.toInt → R (0 : Int32)) →
  (48 ≤ a0.toInt → a0.toInt ≤ 57 → R (1 : Int32)) →
  R o1
abbrev ky_668275_Reader_isDigit : gKey := (cX14_isDigit, 1, "SpillForgeModel$Reader", (some FieldType.boolean), [], "isDigit", fun _ _ => True)
def pp_668275_Reader_isDigit (D : va_G) (I : FieldType → ClassId) (P668272 : List Nat) (F668273 : Nat → va_E) (p668274 : Int32) : Option Value → va_W → Nat → Nat → Prop := fun r w dc ds => ∃ (o668282 : Int32), r = some (.int o668282) ∧ w = va_pl P668272 F668273 ∧ dc ≤ 0 ∧ ds ≤ 0 ∧ gB o668282 0 1 ∧ isP p668274 48 57 o668282 ∧ tr_RReader_isDigit2 p668274 o668282
set_option maxRecDepth 100000 in
set_option maxHeartbeats 4000000 in
theorem cp_668275_Reader_isDigit (l : Launch) (hl0 : l.stackTraces = false) (D : va_G) (I : FieldType → ClassId) (P668272 : List Nat) (F668273 : Nat → va_E) (p668274 : Int32)  : CtA (gV D I) l yX14_isDigit cX14_isDigit 1 (some FieldType.boolean) 0 0 0 0 [.int p668274] (va_pl P668272 F668273) (pp_668275_Reader_isDigit D I P668272 F668273 p668274) gNA := by
  refine CtA_of hl0 (by decide) (Nat.le_of_ble_eq_true rfl) ?_
  have bp668274 := gB_any p668274
  refine G_iload_n 0 dr_cX14_isDigit_0 rfl ?_
  refine G_bipush 48 dr_cX14_isDigit_1 (by decide +kernel) ?_
  refine G_icmp_lt 16 dr_cX14_isDigit_3 (by decide +kernel) (fun hc668276 => ?_) (fun hc668276 => ?_)
  · have r668277 : p668274.toInt < 48 := gj_lt hc668276 (show Int32.toInt 48 = 48 by decide)
    have bp668274' : gB p668274 (-2147483648) 47 := ⟨by omega, by omega⟩
    refine G_iconst 0 dr_cX14_isDigit_16 (by decide +kernel) ?_
    exact G_zretA FieldType.boolean dr_cX14_isDigit_17 rfl rfl (Nat.le_of_ble_eq_true rfl) (Nat.le_of_ble_eq_true rfl) ⟨0, rfl, rfl, (Nat.le_of_ble_eq_true rfl), (Nat.le_of_ble_eq_true rfl), (gB_w (gBl (show Int32.toInt 0 = 0 by decide)) (by decide) (by decide)), (isP_n (by omega)), (fun R c1 c2 c3 => c1 r668277)⟩
  · have r668278 : 48 ≤ p668274.toInt := gj_nlt hc668276 (show Int32.toInt 48 = 48 by decide)
    have bp668274' : gB p668274 48 2147483647 := ⟨by omega, by omega⟩
    refine G_iload_n 0 dr_cX14_isDigit_6 rfl ?_
    refine G_bipush 57 dr_cX14_isDigit_7 (by decide +kernel) ?_
    refine G_icmp_gt 16 dr_cX14_isDigit_9 (by decide +kernel) (fun hc668279 => ?_) (fun hc668279 => ?_)
    · have r668280 : 57 < p668274.toInt := gj_ltL hc668279 (show Int32.toInt 57 = 57 by decide)
      have bp668274'' : gB p668274 58 2147483647 := ⟨by omega, by omega⟩
      refine G_iconst 0 dr_cX14_isDigit_16 (by decide +kernel) ?_
      exact G_zretA FieldType.boolean dr_cX14_isDigit_17 rfl rfl (Nat.le_of_ble_eq_true rfl) (Nat.le_of_ble_eq_true rfl) ⟨0, rfl, rfl, (Nat.le_of_ble_eq_true rfl), (Nat.le_of_ble_eq_true rfl), (gB_w (gBl (show Int32.toInt 0 = 0 by decide)) (by decide) (by decide)), (isP_n (by omega)), (fun R c1 c2 c3 => c2 r668278 r668280)⟩
    · have r668281 : p668274.toInt ≤ 57 := gj_nltL hc668279 (show Int32.toInt 57 = 57 by decide)
      have bp668274'' : gB p668274 48 57 := ⟨by omega, by omega⟩
      refine G_iconst 1 dr_cX14_isDigit_12 (by decide +kernel) ?_
      refine G_goto 17 dr_cX14_isDigit_13 (by decide +kernel) ?_
      exact G_zretA FieldType.boolean dr_cX14_isDigit_17 rfl rfl (Nat.le_of_ble_eq_true rfl) (Nat.le_of_ble_eq_true rfl) ⟨1, rfl, rfl, (Nat.le_of_ble_eq_true rfl), (Nat.le_of_ble_eq_true rfl), (gB_w (gBl (show Int32.toInt 1 = 1 by decide)) (by decide) (by decide)), (isP_y (by omega) (by omega)), (fun R c1 c2 c3 => c3 r668278 r668281)⟩
/- tr_RMath_min: result -/
def tr_RMath_min (a0 : Int64) (a1 : Int64) (o1 : Int64) : Prop := ∀ R : (Int64) → Prop,
  (∀ (x1 : Int32), x1 = lg_cmp a0 a1 → 0 < x1.toInt → R a1) →
  (∀ (x1 : Int32), x1 = lg_cmp a0 a1 → x1.toInt ≤ 0 → R a0) →
  R o1
abbrev ky_668329_Math_min : gKey := (cJ9_min_f86c9, 4, "java/lang/Math", (some FieldType.long), [], "min", fun _ _ => True)
def pp_668329_Math_min (D : va_G) (I : FieldType → ClassId) (P668325 : List Nat) (F668326 : Nat → va_E) (pl668327 : Int64) (pl668328 : Int64) : Option Value → va_W → Nat → Nat → Prop := fun r w dc ds => ∃ (ol668334 : Int64), r = some (.long ol668334) ∧ w = va_pl P668325 F668326 ∧ dc ≤ 0 ∧ ds ≤ 0 ∧ lmP pl668327 pl668328 ol668334 ∧ tr_RMath_min pl668327 pl668328 ol668334
set_option maxRecDepth 100000 in
set_option maxHeartbeats 4000000 in
theorem cp_668329_Math_min (l : Launch) (hl0 : l.stackTraces = false) (D : va_G) (I : FieldType → ClassId) (P668325 : List Nat) (F668326 : Nat → va_E) (pl668327 : Int64) (pl668328 : Int64)  : CtA (gV D I) l yJ9_min_f86c9 cJ9_min_f86c9 4 (some FieldType.long) 0 0 0 0 [.long pl668327, .long pl668328] (va_pl P668325 F668326) (pp_668329_Math_min D I P668325 F668326 pl668327 pl668328) gNA := by
  refine CtA_ofF hl0 (by decide +kernel) (Nat.le_of_ble_eq_true rfl) ?_
  refine G_lload_n 0 dr_cJ9_min_f86c9_0 rfl ?_
  refine G_lload_n 1 dr_cJ9_min_f86c9_1 rfl ?_
  refine G_lcmp dr_cJ9_min_f86c9_2 (G_nam fun z668330 hz668330 => ?_)
  have bz668330 : gB z668330 (-1) 1 := gB_cmp hz668330
  refine G_if_gt 10 dr_cJ9_min_f86c9_3 (by decide +kernel) (fun hc668331 => ?_) (fun hc668331 => ?_)
  · have r668332 : 0 < z668330.toInt := gj_ltL hc668331 (show Int32.toInt 0 = 0 by decide)
    have bz668330' : gB z668330 1 1 := ⟨by omega, by omega⟩
    have lhc668331 := gC_cmpS hz668330 (by omega)
    refine G_lload_n 1 dr_cJ9_min_f86c9_10 rfl ?_
    exact G_lretA dr_cJ9_min_f86c9_11 rfl (Nat.le_of_ble_eq_true rfl) (Nat.le_of_ble_eq_true rfl) ⟨pl668328, rfl, rfl, (Nat.le_of_ble_eq_true rfl), (Nat.le_of_ble_eq_true rfl), (by first | exact lm_r | exact lm_l (by assumption) (by omega)), (fun R c1 c2 => c1 z668330 hz668330 r668332)⟩
  · have r668333 : z668330.toInt ≤ 0 := gj_nltL hc668331 (show Int32.toInt 0 = 0 by decide)
    have bz668330' : gB z668330 (-1) 0 := ⟨by omega, by omega⟩
    refine G_lload_n 0 dr_cJ9_min_f86c9_6 rfl ?_
    refine G_goto 11 dr_cJ9_min_f86c9_7 (by decide +kernel) ?_
    exact G_lretA dr_cJ9_min_f86c9_11 rfl (Nat.le_of_ble_eq_true rfl) (Nat.le_of_ble_eq_true rfl) ⟨pl668327, rfl, rfl, (Nat.le_of_ble_eq_true rfl), (Nat.le_of_ble_eq_true rfl), (by first | exact lm_r | exact lm_l (by assumption) (by omega)), (fun R c1 c2 => c2 z668330 hz668330 r668333)⟩
/- tl_RReader_number_16: l2, a0_at; out: l2, a0_at -/
def tl_RReader_number_16 (a0_n : Int32) (a0_t_v : Nat → Int32) (s1 : Int64) (s2 : Int32) (k : Nat) (e1 : Int64) (e2 : Int32) : Prop := ∀ R : (Int64) → (Int32) → Nat → (Int64) → (Int32) → Prop,
  (∀ (l2_1 : Int64) (a0_at_1 : Int32), gB a0_at_1 0 8192 → a0_n.toInt ≤ a0_at_1.toInt → R l2_1 a0_at_1 82 l2_1 a0_at_1) →
  (∀ (l2_1 : Int64) (a0_at_1 : Int32) (x1 : Int32) (x2 : Int32), gB a0_at_1 0 8192 → a0_at_1.toInt < a0_n.toInt → x1 = a0_t_v a0_at_1.toNatClampNeg → gB x1 (-128) 127 → gB x2 0 1 → tr_RReader_isDigit2 x1 x2 → x2.toInt = 0 → R l2_1 a0_at_1 82 l2_1 a0_at_1) →
  (∀ (l2_1 : Int64) (a0_at_1 : Int32) (x1 : Int32) (x2 : Int32) (x3 : Int64) (x4 : Int64) (x5 : Int64) (x6 : Int64) (x7 : Int64) (x8 : Int32) (k : Nat) (e1 : Int64) (e2 : Int32), gB a0_at_1 0 8192 → a0_at_1.toInt < a0_n.toInt → x1 = a0_t_v a0_at_1.toNatClampNeg → gB x1 (-128) 127 → gB x2 0 1 → tr_RReader_isDigit2 x1 x2 → x2.toInt ≠ 0 → x3 = l2_1 * (10 : Int64) → x4 = x1.toInt64 → x5 = x3 + x4 → x6 = x5 - (48 : Int64) → tr_RMath_min x6 (1099511627776 : Int64) x7 → x8.toInt = a0_at_1.toInt + 1 → R x7 x8 k e1 e2 → R l2_1 a0_at_1 k e1 e2) →
  R s1 s2 k e1 e2
/- tl_RReader_number_16_2: l2, a0_at; out: l2, a0_at -/
def tl_RReader_number_16_2 (a0_n : Int32) (a0_t_v : Nat → Int32) (s1 : Int64) (s2 : Int32) (k : Nat) (e1 : Int64) (e2 : Int32) : Prop := ∀ R : (Int64) → (Int32) → Nat → (Int64) → (Int32) → Prop,
  (∀ (l2_1 : Int64) (a0_at_1 : Int32), gB a0_at_1 0 8192 → a0_n.toInt ≤ a0_at_1.toInt → R l2_1 a0_at_1 82 l2_1 a0_at_1) →
  (∀ (l2_1 : Int64) (a0_at_1 : Int32) (x1 : Int32) (x2 : Int32), gB a0_at_1 0 8192 → a0_at_1.toInt < a0_n.toInt → x1 = a0_t_v a0_at_1.toNatClampNeg → gB x1 (-128) 127 → gB x2 0 1 → tr_RReader_isDigit2 x1 x2 → x2.toInt = 0 → R l2_1 a0_at_1 82 l2_1 a0_at_1) →
  (∀ (l2_1 : Int64) (a0_at_1 : Int32) (x1 : Int32) (x2 : Int32) (x3 : Int64) (x4 : Int64) (x5 : Int64) (x6 : Int64) (x7 : Int64) (x8 : Int32) (k : Nat) (e1 : Int64) (e2 : Int32), gB a0_at_1 0 8192 → a0_at_1.toInt < a0_n.toInt → x1 = a0_t_v a0_at_1.toNatClampNeg → gB x1 (-128) 127 → gB x2 0 1 → tr_RReader_isDigit2 x1 x2 → x2.toInt ≠ 0 → x3 = l2_1 * (10 : Int64) → x4 = x1.toInt64 → x5 = x3 + x4 → x6 = x5 - (48 : Int64) → tr_RMath_min x6 (1099511627776 : Int64) x7 → x8.toInt = a0_at_1.toInt + 1 → R x7 x8 k e1 e2 → R l2_1 a0_at_1 k e1 e2) →
  R s1 s2 k e1 e2
/- tr_RReader_number: a.0...at, a.0...kind, a.0...value -/
def tr_RReader_number (a1 : Int32) (a0_n : Int32) (a0_at : Int32) (a0_t_v : Nat → Int32) (o1 : Int32) (o2 : Int32) (o3 : Int32) (o4 : gTx) : Prop := ∀ R : (Int32) → (Int32) → (Int32) → (gTx) → Prop,
  (∀ (x1 : Int64) (x2 : Int32) (x3 : Int32) (x4 : Int32) (x5 : Int64), a1.toInt = 0 → tl_RReader_number_16 a0_n a0_t_v (0 : Int64) a0_at 82 x1 x2 → x3 = x1.toInt32 → x4 = x1.toInt32 → x5 = x4.toInt64 → (¬ x1 = x5) → R x2 (6 : Int32) x3 (0, fun _ => 0)) →
  (∀ (x1 : Int64) (x2 : Int32) (x3 : Int32) (x4 : Int32) (x5 : Int64), a1.toInt = 0 → tl_RReader_number_16 a0_n a0_t_v (0 : Int64) a0_at 82 x1 x2 → x3 = x1.toInt32 → x4 = x1.toInt32 → x5 = x4.toInt64 → x1 = x5 → R x2 (4 : Int32) x3 (0, fun _ => 0)) →
  (∀ (x1 : Int32) (x2 : Int64) (x3 : Int32) (x4 : Int64) (x5 : Int32) (x6 : Int32) (x7 : Int64), a1.toInt ≠ 0 → x1.toInt = a0_at.toInt + 1 → tl_RReader_number_16_2 a0_n a0_t_v (0 : Int64) x1 82 x2 x3 → x4 = -x2 → x5 = x4.toInt32 → x6 = x4.toInt32 → x7 = x6.toInt64 → (¬ x4 = x7) → R x3 (6 : Int32) x5 (0, fun _ => 0)) →
  (∀ (x1 : Int32) (x2 : Int64) (x3 : Int32) (x4 : Int64) (x5 : Int32) (x6 : Int32) (x7 : Int64), a1.toInt ≠ 0 → x1.toInt = a0_at.toInt + 1 → tl_RReader_number_16_2 a0_n a0_t_v (0 : Int64) x1 82 x2 x3 → x4 = -x2 → x5 = x4.toInt32 → x6 = x4.toInt32 → x7 = x6.toInt64 → x4 = x7 → R x3 (4 : Int32) x5 (0, fun _ => 0)) →
  R o1 o2 o3 o4
