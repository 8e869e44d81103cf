theorem dr_cJ6_getChars_ba4f3_0 : decode cJ6_getChars_ba4f3 0 = .ok (.iload_n 1, 1) := by decide +kernel
theorem dr_cJ6_getChars_ba4f3_1 : decode cJ6_getChars_ba4f3 1 = .ok (.istore 5, 2) := by decide +kernel
theorem dr_cJ6_getChars_ba4f3_3 : decode cJ6_getChars_ba4f3 3 = .ok (.iload_n 0, 1) := by decide +kernel
theorem dr_cJ6_getChars_ba4f3_4 : decode cJ6_getChars_ba4f3 4 = .ok (.ifCond .ge 7, 3) := by decide +kernel
theorem dr_cJ6_getChars_ba4f3_11 : decode cJ6_getChars_ba4f3 11 = .ok (.iconst 0, 1) := by decide +kernel
theorem dr_cJ6_getChars_ba4f3_12 : decode cJ6_getChars_ba4f3 12 = .ok (.istore 6, 2) := by decide +kernel
theorem dr_cJ6_getChars_ba4f3_14 : decode cJ6_getChars_ba4f3 14 = .ok (.iload 6, 2) := by decide +kernel
theorem dr_cJ6_getChars_ba4f3_16 : decode cJ6_getChars_ba4f3 16 = .ok (.ifCond .ne 6, 3) := by decide +kernel
theorem dr_cJ6_getChars_ba4f3_19 : decode cJ6_getChars_ba4f3 19 = .ok (.iload_n 0, 1) := by decide +kernel
theorem dr_cJ6_getChars_ba4f3_20 : decode cJ6_getChars_ba4f3 20 = .ok (.ineg, 1) := by decide +kernel
theorem dr_cJ6_getChars_ba4f3_21 : decode cJ6_getChars_ba4f3 21 = .ok (.istore_n 0, 1) := by decide +kernel
theorem dr_cJ6_getChars_ba4f3_22 : decode cJ6_getChars_ba4f3 22 = .ok (.iload_n 0, 1) := by decide +kernel
theorem dr_cJ6_getChars_ba4f3_23 : decode cJ6_getChars_ba4f3 23 = .ok (.bipush (-100), 2) := by decide +kernel
theorem dr_cJ6_getChars_ba4f3_25 : decode cJ6_getChars_ba4f3 25 = .ok (.if_icmp .gt 47, 3) := by decide +kernel
theorem dr_cJ6_getChars_ba4f3_72 : decode cJ6_getChars_ba4f3 72 = .ok (.aload_n 2, 1) := by decide +kernel
theorem dr_cJ6_getChars_ba4f3_73 : decode cJ6_getChars_ba4f3 73 = .ok (.iinc 5 (-1), 3) := by decide +kernel
theorem dr_cJ6_getChars_ba4f3_76 : decode cJ6_getChars_ba4f3 76 = .ok (.iload 5, 2) := by decide +kernel
theorem dr_cJ6_getChars_ba4f3_78 : decode cJ6_getChars_ba4f3 78 = .ok (.getstatic 83, 3) := by decide +kernel
theorem wr_8_118 : (Jvm.Cond.fieldLink "java/lang/Integer" (83 : Nat) "java/lang/Integer" "DigitOnes" "[B") ∈ gw := gw_8 118 rfl rfl
theorem dr_cJ6_getChars_ba4f3_81 : decode cJ6_getChars_ba4f3 81 = .ok (.iload_n 0, 1) := by decide +kernel
theorem dr_cJ6_getChars_ba4f3_82 : decode cJ6_getChars_ba4f3 82 = .ok (.ineg, 1) := by decide +kernel
theorem dr_cJ6_getChars_ba4f3_83 : decode cJ6_getChars_ba4f3 83 = .ok (.baload, 1) := by decide +kernel
theorem dr_cJ6_getChars_ba4f3_84 : decode cJ6_getChars_ba4f3 84 = .ok (.bastore, 1) := by decide +kernel
theorem dr_cJ6_getChars_ba4f3_85 : decode cJ6_getChars_ba4f3 85 = .ok (.iload_n 0, 1) := by decide +kernel
theorem dr_cJ6_getChars_ba4f3_86 : decode cJ6_getChars_ba4f3 86 = .ok (.bipush (-9), 2) := by decide +kernel
theorem dr_cJ6_getChars_ba4f3_88 : decode cJ6_getChars_ba4f3 88 = .ok (.if_icmp .ge 16, 3) := by decide +kernel
theorem dr_cJ6_getChars_ba4f3_104 : decode cJ6_getChars_ba4f3 104 = .ok (.iload 6, 2) := by decide +kernel
theorem dr_cJ6_getChars_ba4f3_106 : decode cJ6_getChars_ba4f3 106 = .ok (.ifCond .eq 12, 3) := by decide +kernel
theorem dr_cJ6_getChars_ba4f3_118 : decode cJ6_getChars_ba4f3 118 = .ok (.iload 5, 2) := by decide +kernel
theorem dr_cJ6_getChars_ba4f3_120 : decode cJ6_getChars_ba4f3 120 = .ok (.ireturn, 1) := by decide +kernel
theorem dr_cJ6_getChars_ba4f3_91 : decode cJ6_getChars_ba4f3 91 = .ok (.aload_n 2, 1) := by decide +kernel
theorem dr_cJ6_getChars_ba4f3_92 : decode cJ6_getChars_ba4f3 92 = .ok (.iinc 5 (-1), 3) := by decide +kernel
theorem dr_cJ6_getChars_ba4f3_95 : decode cJ6_getChars_ba4f3 95 = .ok (.iload 5, 2) := by decide +kernel
theorem dr_cJ6_getChars_ba4f3_97 : decode cJ6_getChars_ba4f3 97 = .ok (.getstatic 87, 3) := by decide +kernel
theorem wr_8_120 : (Jvm.Cond.fieldLink "java/lang/Integer" (87 : Nat) "java/lang/Integer" "DigitTens" "[B") ∈ gw := gw_8 120 rfl rfl
theorem dr_cJ6_getChars_ba4f3_100 : decode cJ6_getChars_ba4f3 100 = .ok (.iload_n 0, 1) := by decide +kernel
theorem dr_cJ6_getChars_ba4f3_101 : decode cJ6_getChars_ba4f3 101 = .ok (.ineg, 1) := by decide +kernel
theorem dr_cJ6_getChars_ba4f3_102 : decode cJ6_getChars_ba4f3 102 = .ok (.baload, 1) := by decide +kernel
theorem dr_cJ6_getChars_ba4f3_103 : decode cJ6_getChars_ba4f3 103 = .ok (.bastore, 1) := by decide +kernel
theorem dr_cJ6_getChars_ba4f3_28 : decode cJ6_getChars_ba4f3 28 = .ok (.iload_n 0, 1) := by decide +kernel
theorem dr_cJ6_getChars_ba4f3_29 : decode cJ6_getChars_ba4f3 29 = .ok (.bipush 100, 2) := by decide +kernel
theorem dr_cJ6_getChars_ba4f3_31 : decode cJ6_getChars_ba4f3 31 = .ok (.idiv, 1) := by decide +kernel
theorem dr_cJ6_getChars_ba4f3_32 : decode cJ6_getChars_ba4f3 32 = .ok (.istore_n 3, 1) := by decide +kernel
theorem dr_cJ6_getChars_ba4f3_33 : decode cJ6_getChars_ba4f3 33 = .ok (.iload_n 3, 1) := by decide +kernel
theorem dr_cJ6_getChars_ba4f3_34 : decode cJ6_getChars_ba4f3 34 = .ok (.bipush 100, 2) := by decide +kernel
theorem dr_cJ6_getChars_ba4f3_36 : decode cJ6_getChars_ba4f3 36 = .ok (.imul, 1) := by decide +kernel
theorem dr_cJ6_getChars_ba4f3_37 : decode cJ6_getChars_ba4f3 37 = .ok (.iload_n 0, 1) := by decide +kernel
theorem dr_cJ6_getChars_ba4f3_38 : decode cJ6_getChars_ba4f3 38 = .ok (.isub, 1) := by decide +kernel
theorem dr_cJ6_getChars_ba4f3_39 : decode cJ6_getChars_ba4f3 39 = .ok (.istore 4, 2) := by decide +kernel
theorem dr_cJ6_getChars_ba4f3_41 : decode cJ6_getChars_ba4f3 41 = .ok (.iload_n 3, 1) := by decide +kernel
theorem dr_cJ6_getChars_ba4f3_42 : decode cJ6_getChars_ba4f3 42 = .ok (.istore_n 0, 1) := by decide +kernel
theorem dr_cJ6_getChars_ba4f3_43 : decode cJ6_getChars_ba4f3 43 = .ok (.aload_n 2, 1) := by decide +kernel
theorem dr_cJ6_getChars_ba4f3_44 : decode cJ6_getChars_ba4f3 44 = .ok (.iinc 5 (-1), 3) := by decide +kernel
theorem dr_cJ6_getChars_ba4f3_47 : decode cJ6_getChars_ba4f3 47 = .ok (.iload 5, 2) := by decide +kernel
theorem dr_cJ6_getChars_ba4f3_49 : decode cJ6_getChars_ba4f3 49 = .ok (.getstatic 83, 3) := by decide +kernel
theorem dr_cJ6_getChars_ba4f3_52 : decode cJ6_getChars_ba4f3 52 = .ok (.iload 4, 2) := by decide +kernel
theorem dr_cJ6_getChars_ba4f3_54 : decode cJ6_getChars_ba4f3 54 = .ok (.baload, 1) := by decide +kernel
theorem dr_cJ6_getChars_ba4f3_55 : decode cJ6_getChars_ba4f3 55 = .ok (.bastore, 1) := by decide +kernel
theorem dr_cJ6_getChars_ba4f3_56 : decode cJ6_getChars_ba4f3 56 = .ok (.aload_n 2, 1) := by decide +kernel
theorem dr_cJ6_getChars_ba4f3_57 : decode cJ6_getChars_ba4f3 57 = .ok (.iinc 5 (-1), 3) := by decide +kernel
theorem dr_cJ6_getChars_ba4f3_60 : decode cJ6_getChars_ba4f3 60 = .ok (.iload 5, 2) := by decide +kernel
theorem dr_cJ6_getChars_ba4f3_62 : decode cJ6_getChars_ba4f3 62 = .ok (.getstatic 87, 3) := by decide +kernel
theorem dr_cJ6_getChars_ba4f3_65 : decode cJ6_getChars_ba4f3 65 = .ok (.iload 4, 2) := by decide +kernel
theorem dr_cJ6_getChars_ba4f3_67 : decode cJ6_getChars_ba4f3 67 = .ok (.baload, 1) := by decide +kernel
theorem dr_cJ6_getChars_ba4f3_68 : decode cJ6_getChars_ba4f3 68 = .ok (.bastore, 1) := by decide +kernel
theorem dr_cJ6_getChars_ba4f3_69 : decode cJ6_getChars_ba4f3 69 = .ok (.goto (-47), 3) := by decide +kernel
theorem dr_cJ6_getChars_ba4f3_7 : decode cJ6_getChars_ba4f3 7 = .ok (.iconst 1, 1) := by decide +kernel
theorem dr_cJ6_getChars_ba4f3_8 : decode cJ6_getChars_ba4f3 8 = .ok (.goto 4, 3) := by decide +kernel
theorem dr_cJ6_getChars_ba4f3_109 : decode cJ6_getChars_ba4f3 109 = .ok (.aload_n 2, 1) := by decide +kernel
theorem dr_cJ6_getChars_ba4f3_110 : decode cJ6_getChars_ba4f3 110 = .ok (.iinc 5 (-1), 3) := by decide +kernel
theorem dr_cJ6_getChars_ba4f3_113 : decode cJ6_getChars_ba4f3 113 = .ok (.iload 5, 2) := by decide +kernel
theorem dr_cJ6_getChars_ba4f3_115 : decode cJ6_getChars_ba4f3 115 = .ok (.bipush 45, 2) := by decide +kernel
theorem dr_cJ6_getChars_ba4f3_117 : decode cJ6_getChars_ba4f3 117 = .ok (.bastore, 1) := by decide +kernel
theorem dr_cJ5_append_c97b9_0 : decode cJ5_append_c97b9 0 = .ok (.aload_n 0, 1) := by decide +kernel
theorem dr_cJ5_append_c97b9_1 : decode cJ5_append_c97b9 1 = .ok (.getfield 79, 3) := by decide +kernel
theorem dr_cJ5_append_c97b9_4 : decode cJ5_append_c97b9 4 = .ok (.istore_n 2, 1) := by decide +kernel
theorem dr_cJ5_append_c97b9_5 : decode cJ5_append_c97b9 5 = .ok (.iload_n 2, 1) := by decide +kernel
theorem dr_cJ5_append_c97b9_6 : decode cJ5_append_c97b9 6 = .ok (.iload_n 1, 1) := by decide +kernel
theorem dr_cJ5_append_c97b9_7 : decode cJ5_append_c97b9 7 = .ok (.invokestatic 245, 3) := by decide +kernel
theorem wr_8_112 : (Jvm.Cond.methodLink "java/lang/AbstractStringBuilder" (245 : Nat) ({ cls := "java/lang/Integer", name := "stringSize", desc := "(I)I" } : Jvm.MethodName)) ∈ gw := gw_8 112 rfl rfl
theorem wr_8_114 : (Jvm.Cond.code ({ cls := "java/lang/Integer", name := "stringSize", desc := "(I)I" } : Jvm.MethodName) prog_29_method_13_code (4 : Nat) (Option.some Jvm.ClassFile.FieldType.int)) ∈ gw := gw_8 114 rfl rfl
theorem wr_8_113 : (Jvm.Cond.static ({ cls := "java/lang/Integer", name := "stringSize", desc := "(I)I" } : Jvm.MethodName)) ∈ gw := gw_8 113 rfl rfl
theorem dr_cJ5_append_c97b9_10 : decode cJ5_append_c97b9 10 = .ok (.iadd, 1) := by decide +kernel
theorem dr_cJ5_append_c97b9_11 : decode cJ5_append_c97b9 11 = .ok (.istore_n 3, 1) := by decide +kernel
theorem dr_cJ5_append_c97b9_12 : decode cJ5_append_c97b9 12 = .ok (.aload_n 0, 1) := by decide +kernel
theorem dr_cJ5_append_c97b9_13 : decode cJ5_append_c97b9 13 = .ok (.iload_n 3, 1) := by decide +kernel
theorem dr_cJ5_append_c97b9_14 : decode cJ5_append_c97b9 14 = .ok (.invokevirtual 100, 3) := by decide +kernel
theorem dr_cJ5_append_c97b9_17 : decode cJ5_append_c97b9 17 = .ok (.aload_n 0, 1) := by decide +kernel
theorem dr_cJ5_append_c97b9_18 : decode cJ5_append_c97b9 18 = .ok (.invokevirtual 83, 3) := by decide +kernel
theorem dr_cJ5_append_c97b9_21 : decode cJ5_append_c97b9 21 = .ok (.ifCond .eq 16, 3) := by decide +kernel
theorem dr_cJ5_append_c97b9_24 : decode cJ5_append_c97b9 24 = .ok (.iload_n 1, 1) := by decide +kernel
theorem dr_cJ5_append_c97b9_25 : decode cJ5_append_c97b9 25 = .ok (.iload_n 3, 1) := by decide +kernel
theorem dr_cJ5_append_c97b9_26 : decode cJ5_append_c97b9 26 = .ok (.aload_n 0, 1) := by decide +kernel
theorem dr_cJ5_append_c97b9_27 : decode cJ5_append_c97b9 27 = .ok (.getfield 15, 3) := by decide +kernel
theorem dr_cJ5_append_c97b9_30 : decode cJ5_append_c97b9 30 = .ok (.invokestatic 248, 3) := by decide +kernel
theorem wr_8_115 : (Jvm.Cond.methodLink "java/lang/AbstractStringBuilder" (248 : Nat) ({ cls := "java/lang/Integer", name := "getChars", desc := "(II[B)I" } : Jvm.MethodName)) ∈ gw := gw_8 115 rfl rfl
theorem wr_8_117 : (Jvm.Cond.code ({ cls := "java/lang/Integer", name := "getChars", desc := "(II[B)I" } : Jvm.MethodName) prog_29_method_12_code (7 : Nat) (Option.some Jvm.ClassFile.FieldType.int)) ∈ gw := gw_8 117 rfl rfl
theorem wr_8_116 : (Jvm.Cond.static ({ cls := "java/lang/Integer", name := "getChars", desc := "(II[B)I" } : Jvm.MethodName)) ∈ gw := gw_8 116 rfl rfl
theorem dr_cJ5_append_c97b9_33 : decode cJ5_append_c97b9 33 = .ok (.pop, 1) := by decide +kernel
theorem dr_cJ5_append_c97b9_34 : decode cJ5_append_c97b9 34 = .ok (.goto 14, 3) := by decide +kernel
theorem dr_cJ5_append_c97b9_48 : decode cJ5_append_c97b9 48 = .ok (.aload_n 0, 1) := by decide +kernel
theorem dr_cJ5_append_c97b9_49 : decode cJ5_append_c97b9 49 = .ok (.iload_n 3, 1) := by decide +kernel
theorem dr_cJ5_append_c97b9_50 : decode cJ5_append_c97b9 50 = .ok (.putfield 79, 3) := by decide +kernel
theorem dr_cJ5_append_c97b9_53 : decode cJ5_append_c97b9 53 = .ok (.aload_n 0, 1) := by decide +kernel
theorem dr_cJ5_append_c97b9_54 : decode cJ5_append_c97b9 54 = .ok (.areturn, 1) := by decide +kernel
theorem dr_cJ4_append_bf812_0 : decode cJ4_append_bf812 0 = .ok (.aload_n 0, 1) := by decide +kernel
theorem dr_cJ4_append_bf812_1 : decode cJ4_append_bf812 1 = .ok (.iload_n 1, 1) := by decide +kernel
theorem dr_cJ4_append_bf812_2 : decode cJ4_append_bf812 2 = .ok (.invokespecial 53, 3) := by decide +kernel
theorem wr_8_109 : (Jvm.Cond.methodLink "java/lang/StringBuilder" (53 : Nat) ({ cls := "java/lang/AbstractStringBuilder", name := "append", desc := "(I)Ljava/lang/AbstractStringBuilder;" } : Jvm.MethodName)) ∈ gw := gw_8 109 rfl rfl
theorem wr_8_111 : (Jvm.Cond.code ({ cls := "java/lang/AbstractStringBuilder", name := "append", desc := "(I)Ljava/lang/AbstractStringBuilder;" } : Jvm.MethodName) prog_21_method_32_code (4 : Nat) (Option.some (Jvm.ClassFile.FieldType.object "java/lang/AbstractStringBuilder"))) ∈ gw := gw_8 111 rfl rfl
theorem wr_8_110 : (Jvm.Cond.instanceMethod ({ cls := "java/lang/AbstractStringBuilder", name := "append", desc := "(I)Ljava/lang/AbstractStringBuilder;" } : Jvm.MethodName)) ∈ gw := gw_8 110 rfl rfl
theorem wr_11_228 : (Jvm.Cond.sameMethod "java/lang/AbstractStringBuilder" "java/lang/AbstractStringBuilder" "append" "(I)Ljava/lang/AbstractStringBuilder;") ∈ gw := gw_11 228 rfl rfl
theorem dr_cJ4_append_bf812_5 : decode cJ4_append_bf812 5 = .ok (.pop, 1) := by decide +kernel
theorem dr_cJ4_append_bf812_6 : decode cJ4_append_bf812 6 = .ok (.aload_n 0, 1) := by decide +kernel
theorem dr_cJ4_append_bf812_7 : decode cJ4_append_bf812 7 = .ok (.areturn, 1) := by decide +kernel
theorem dr_cJ9_min_f86c9_0 : decode cJ9_min_f86c9 0 = .ok (.lload_n 0, 1) := by decide +kernel
theorem dr_cJ9_min_f86c9_1 : decode cJ9_min_f86c9 1 = .ok (.lload_n 2, 1) := by decide +kernel
theorem dr_cJ9_min_f86c9_2 : decode cJ9_min_f86c9 2 = .ok (.lcmp, 1) := by decide +kernel
theorem dr_cJ9_min_f86c9_3 : decode cJ9_min_f86c9 3 = .ok (.ifCond .gt 7, 3) := by decide +kernel
theorem dr_cJ9_min_f86c9_10 : decode cJ9_min_f86c9 10 = .ok (.lload_n 2, 1) := by decide +kernel
theorem dr_cJ9_min_f86c9_11 : decode cJ9_min_f86c9 11 = .ok (.lreturn, 1) := by decide +kernel
theorem dr_cJ9_min_f86c9_6 : decode cJ9_min_f86c9 6 = .ok (.lload_n 0, 1) := by decide +kernel
theorem dr_cJ9_min_f86c9_7 : decode cJ9_min_f86c9 7 = .ok (.goto 4, 3) := by decide +kernel
abbrev ky_666829_Integer_getChars : gKey := (cJ6_getChars_ba4f3, 7, "java/lang/Integer", (some FieldType.int), [], "getChars", fun _ _ => True)
def pp_666829_Integer_getChars (D : va_G) (I : FieldType → ClassId) (P666819 : List Nat) (F666820 : Nat → va_E) (q666821 : Nat) (p666822 : Int32) (p666823 : Int32) (f666824 : Nat → Int32) (n666825 : Nat) : Option Value → va_W → Nat → Nat → Prop := fun r w dc ds => ∃ (F667223 : Nat → va_E) (o667221 : Int32) (f667220 : Nat → Int32), r = some (.int o667221) ∧ w = va_pl P666819 F667223 ∧ rFr [q666821] P666819 F666820 F667223 ∧ F667223 q666821 = .inl (I .byte, n666825, .inl f667220) ∧ dc ≤ 0 ∧ ds ≤ 0 ∧ gB o667221 0 16777215 ∧ gF f667220 (-128) 127 ∧ tr_RInteger_getChars p666822 p666823 f666824 o667221 f667220
set_option maxRecDepth 100000 in
set_option maxHeartbeats 4000000 in
theorem cp_666829_Integer_getChars (l : Launch) (hl0 : l.stackTraces = false) (D : va_G) (I : FieldType → ClassId) (P666819 : List Nat) (F666820 : Nat → va_E) (q666821 : Nat) (p666822 : Int32) (p666823 : Int32) (f666824 : Nat → Int32) (n666825 : Nat) (hmq666821 : q666821 ∈ P666819) (heq666821 : F666820 q666821 = .inl (I .byte, n666825, .inl f666824)) (bp666823 : gB p666823 0 16777216) (bf666824 : gF f666824 (-128) 127) (x666826 : p666823.toInt ≤ (n666825 : Int)) (x666827 : dgS p666822.toInt p666823.toInt) (x666828 : ((n666825 : Int) ≤ 16777216)) : CtA (gV D I) l yJ6_getChars_ba4f3 cJ6_getChars_ba4f3 7 (some FieldType.int) 0 0 0 0 [.int p666822, .int p666823, .ref q666821] (va_pl P666819 F666820) (pp_666829_Integer_getChars D I P666819 F666820 q666821 p666822 p666823 f666824 n666825) gNA := by
  refine CtA_ofF hl0 (by decide +kernel) (Nat.le_of_ble_eq_true rfl) ?_
  have bp666822 := gB_any p666822
  refine G_iload_n 1 dr_cJ6_getChars_ba4f3_0 rfl ?_
  refine G_istore (L' := [(5, .int p666823), (0, .int p666822), (1, .int p666823), (2, .ref q666821)]) dr_cJ6_getChars_ba4f3_1 (Nat.le_of_ble_eq_true rfl) rfl ?_
  refine G_iload_n 1 dr_cJ6_getChars_ba4f3_3 rfl ?_
  refine G_if_ge 11 dr_cJ6_getChars_ba4f3_4 (by decide +kernel) (fun hc666830 => ?_) (fun hc666830 => ?_)
  · have r666831 : 0 ≤ p666822.toInt := gj_leL hc666830 (show Int32.toInt 0 = 0 by decide)
    have bp666822' : gB p666822 0 2147483647 := ⟨by omega, by omega⟩
    refine G_iconst 0 dr_cJ6_getChars_ba4f3_11 (by decide +kernel) ?_
    refine G_istore (L' := [(6, .int 0), (5, .int p666823), (0, .int p666822), (1, .int p666823), (2, .ref q666821)]) dr_cJ6_getChars_ba4f3_12 (Nat.le_of_ble_eq_true rfl) rfl ?_
    refine G_iload 0 dr_cJ6_getChars_ba4f3_14 rfl ?_
    refine G_if_ne 22 dr_cJ6_getChars_ba4f3_16 (by decide +kernel) (fun hc => absurd hc (by decide)) (fun _ => ?_)
    refine G_iload_n 2 dr_cJ6_getChars_ba4f3_19 rfl ?_
    refine G_ineg dr_cJ6_getChars_ba4f3_20 (G_nam fun z666832 hz666832 => ?_)
    have ez666832 : z666832.toInt = -p666822.toInt := gI_neg hz666832 bp666822' (by decide)
    have bz666832 : gB z666832 (-2147483647) 0 := ⟨by omega, by omega⟩
    refine G_istore_n (L' := [(0, .int z666832), (6, .int 0), (5, .int p666823), (1, .int p666823), (2, .ref q666821)]) dr_cJ6_getChars_ba4f3_21 (Nat.le_of_ble_eq_true rfl) rfl ?_
    have hlp22_666949 : ∀ (n22_666949 : Nat) (F666944 : Nat → va_E) (g666941 : Int32) (g666942 : Int32) (f666943 : Nat → Int32), gB g666941 (-2147483647) 0 → gB g666942 0 16777216 → gF f666943 (-128) 127 → rFr [q666821] P666819 F666820 F666944 → F666944 q666821 = .inl (I .byte, n666825, .inl f666943) → g666941.toInt ≤ 0 → dgB g666941.toInt (g666942.toInt - 0) → g666942.toInt ≤ p666823.toInt → (∀ (k : Nat) (e1 : Int32) (e2 : Int32) (e3 : Nat → Int32), tl_RInteger_getChars_22 g666941 g666942 f666943 k e1 e2 e3 → tl_RInteger_getChars_22 z666832 p666823 f666824 k e1 e2 e3) → (-g666941.toInt).toNat < n22_666949 → G (gV D I) l (gRm 0 0 0 0) (gMA (gV D I) (pp_666829_Integer_getChars D I P666819 F666820 q666821 p666822 p666823 f666824 n666825) gNA 0 0) ky_666829_Integer_getChars 22 [(0, .int g666941), (6, .int 0), (5, .int g666942), (1, .int p666823), (2, .ref q666821)] [] (va_pl P666819 F666944) 0 0 := by
      intro n22_666949
      induction n22_666949 with
      | zero => intro F666944 g666941 g666942 f666943 bg666941 bg666942 bf666943 hfr666946 he666945 x666947 x666948 x666949 kt22_666949 hm22_666949; exact absurd hm22_666949 (Nat.not_lt_zero _)
      | succ n22_666949 ih22_666949 =>
        intro F666944 g666941 g666942 f666943 bg666941 bg666942 bf666943 hfr666946 he666945 x666947 x666948 x666949 kt22_666949 hm22_666949
        refine G_iload_n 0 dr_cJ6_getChars_ba4f3_22 rfl ?_
        refine G_bipush (-100) dr_cJ6_getChars_ba4f3_23 (by decide +kernel) ?_
        refine G_icmp_gt 72 dr_cJ6_getChars_ba4f3_25 (by decide +kernel) (fun hc666950 => ?_) (fun hc666950 => ?_)
        · have r666951 : (-100) < g666941.toInt := gj_ltL hc666950 (show Int32.toInt (-100) = (-100) by decide)
          have bg666941' : gB g666941 (-99) 0 := ⟨by omega, by omega⟩
          have hx666952 : tl_RInteger_getChars_22 z666832 p666823 f666824 72 g666941 g666942 f666943 := kt22_666949 72 g666941 g666942 f666943 (fun R c1 c2 => c1 g666941 g666942 f666943 bg666941 bg666942 r666951)
          have x666953 : (1 : Int) ≤ (g666942.toInt - 0) := dgB_1 x666948
          refine G_aload_n 4 dr_cJ6_getChars_ba4f3_72 rfl ?_
          have bg666942' : gB g666942 1 16777216 := ⟨by omega, by omega⟩
          obtain ⟨z666954, hz666954⟩ : ∃ z : Int32, z = g666942 + Int32.ofInt (-1) := ⟨_, rfl⟩
          have ez666954 : z666954.toInt = g666942.toInt + (-1) := gI_inc hz666954 (by decide) bg666942' (by decide) (by decide)
          have bz666954 : gB z666954 0 16777215 := ⟨by omega, by omega⟩
          refine G_iinc (L' := [(5, .int z666954), (0, .int g666941), (6, .int 0), (1, .int p666823), (2, .ref q666821)]) z666954 2 dr_cJ6_getChars_ba4f3_73 rfl hz666954.symm (Nat.le_of_ble_eq_true rfl) rfl ?_
          refine G_iload 0 dr_cJ6_getChars_ba4f3_76 rfl ?_
          refine G_gets dr_cJ6_getChars_ba4f3_78 wr_8_118 gr_on (fun x666956 hx666955 => ?_)
          subst hx666955
          refine G_iload_n 1 dr_cJ6_getChars_ba4f3_81 rfl ?_
          refine G_ineg dr_cJ6_getChars_ba4f3_82 (G_nam fun z666957 hz666957 => ?_)
          have ez666957 : z666957.toInt = -g666941.toInt := gI_neg hz666957 bg666941' (by decide)
          have bz666957 : gB z666957 0 99 := ⟨by omega, by omega⟩
          refine G_kbald (f := dg_O) dr_cJ6_getChars_ba4f3_83 gr_ont (gB_inr (by omega) (by omega)) (G_nam fun z666958 hz666958 => ?_)
          have bz666958 : gB z666958 (-2147483648) 2147483647 := gB_any z666958
          refine Gp_bast 1 hmq666821 he666945 dr_cJ6_getChars_ba4f3_84 rfl (gB_inr (by omega) (by omega)) (fun F666959 e666960 n666961 => ?_)
          obtain ⟨f666962, hf666962⟩ : ∃ z, z = upd f666943 z666954.toNatClampNeg (vp_nar .byte z666958) := ⟨_, rfl⟩
          rw [← hf666962] at e666960
          have he666963 : F666959 q666821 = .inl (I .byte, n666825, .inl f666962) := e666960
          have hfr666964 : rFr [q666821] P666819 F666820 F666959 := rFr_put' List.mem_cons_self hfr666946 n666961
          have bf666962 : gF f666962 (-128) 127 := gF_upd hf666962 bf666943 gB_byte
          refine G_iload_n 1 dr_cJ6_getChars_ba4f3_85 rfl ?_
          refine G_bipush (-9) dr_cJ6_getChars_ba4f3_86 (by decide +kernel) ?_
          refine G_icmp_ge 104 dr_cJ6_getChars_ba4f3_88 (by decide +kernel) (fun hc666965 => ?_) (fun hc666965 => ?_)
          · have r666966 : (-9) ≤ g666941.toInt := gj_leL hc666965 (show Int32.toInt (-9) = (-9) by decide)
            have bg666941'' : gB g666941 (-9) 0 := ⟨by omega, by omega⟩
            refine G_iload 2 dr_cJ6_getChars_ba4f3_104 rfl ?_
            refine G_if_eq 118 dr_cJ6_getChars_ba4f3_106 (by decide +kernel) (fun _ => ?_) (fun hc => absurd hc (by decide))
            refine G_iload 0 dr_cJ6_getChars_ba4f3_118 rfl ?_
            exact G_iretA dr_cJ6_getChars_ba4f3_120 rfl (Nat.le_of_ble_eq_true rfl) (Nat.le_of_ble_eq_true rfl) ⟨F666959, z666954, f666962, rfl, rfl, hfr666964, he666963, (Nat.le_of_ble_eq_true rfl), (Nat.le_of_ble_eq_true rfl), bz666954, bf666962, (fun R c1 c2 c3 c4 => c1 z666832 g666941 g666942 f666943 z666954 z666957 z666958 f666962 r666831 hz666832 hx666952 ez666954 hz666957 hz666958 hf666962 r666966)⟩
          · have r666967 : g666941.toInt < (-9) := gj_nleL hc666965 (show Int32.toInt (-9) = (-9) by decide)
            have bg666941'' : gB g666941 (-99) (-10) := ⟨by omega, by omega⟩
            have x666968 : (2 : Int) ≤ (g666942.toInt - 0) := dgB_2 x666948 (by omega)
            refine G_aload_n 4 dr_cJ6_getChars_ba4f3_91 rfl ?_
            have bz666954' : gB z666954 1 16777215 := ⟨by omega, by omega⟩
            obtain ⟨z666969, hz666969⟩ : ∃ z : Int32, z = z666954 + Int32.ofInt (-1) := ⟨_, rfl⟩
            have ez666969 : z666969.toInt = z666954.toInt + (-1) := gI_inc hz666969 (by decide) bz666954' (by decide) (by decide)
            have bz666969 : gB z666969 0 16777214 := ⟨by omega, by omega⟩
            refine G_iinc (L' := [(5, .int z666969), (0, .int g666941), (6, .int 0), (1, .int p666823), (2, .ref q666821)]) z666969 0 dr_cJ6_getChars_ba4f3_92 rfl hz666969.symm (Nat.le_of_ble_eq_true rfl) rfl ?_
            refine G_iload 0 dr_cJ6_getChars_ba4f3_95 rfl ?_
            refine G_gets dr_cJ6_getChars_ba4f3_97 wr_8_120 gr_te (fun x666971 hx666970 => ?_)
            subst hx666970
            refine G_iload_n 1 dr_cJ6_getChars_ba4f3_100 rfl ?_
            refine G_ineg dr_cJ6_getChars_ba4f3_101 (G_nam fun z666972 hz666972 => ?_)
            have ez666972 : z666972.toInt = -g666941.toInt := gI_neg hz666972 bg666941'' (by decide)
            have bz666972 : gB z666972 10 99 := ⟨by omega, by omega⟩
            refine G_kbald (f := dg_T) dr_cJ6_getChars_ba4f3_102 gr_tet (gB_inr (by omega) (by omega)) (G_nam fun z666973 hz666973 => ?_)
            have bz666973 : gB z666973 (-2147483648) 2147483647 := gB_any z666973
            refine Gp_bast 1 hmq666821 he666963 dr_cJ6_getChars_ba4f3_103 rfl (gB_inr (by omega) (by omega)) (fun F666974 e666975 n666976 => ?_)
            obtain ⟨f666977, hf666977⟩ : ∃ z, z = upd f666962 z666969.toNatClampNeg (vp_nar .byte z666973) := ⟨_, rfl⟩
            rw [← hf666977] at e666975
            have he666978 : F666974 q666821 = .inl (I .byte, n666825, .inl f666977) := e666975
            have hfr666979 : rFr [q666821] P666819 F666820 F666974 := rFr_put' List.mem_cons_self hfr666964 n666976
            have bf666977 : gF f666977 (-128) 127 := gF_upd hf666977 bf666962 gB_byte
            refine G_iload 2 dr_cJ6_getChars_ba4f3_104 rfl ?_
            refine G_if_eq 118 dr_cJ6_getChars_ba4f3_106 (by decide +kernel) (fun _ => ?_) (fun hc => absurd hc (by decide))
            refine G_iload 0 dr_cJ6_getChars_ba4f3_118 rfl ?_
            exact G_iretA dr_cJ6_getChars_ba4f3_120 rfl (Nat.le_of_ble_eq_true rfl) (Nat.le_of_ble_eq_true rfl) ⟨F666974, z666969, f666977, rfl, rfl, hfr666979, he666978, (Nat.le_of_ble_eq_true rfl), (Nat.le_of_ble_eq_true rfl), (gB_w bz666969 (by decide) (by decide)), bf666977, (fun R c1 c2 c3 c4 => c2 z666832 g666941 g666942 f666943 z666954 z666957 z666958 f666962 z666969 z666972 z666973 f666977 r666831 hz666832 hx666952 ez666954 hz666957 hz666958 hf666962 r666967 ez666969 hz666972 hz666973 hf666977)⟩
        · have r666980 : g666941.toInt ≤ (-100) := gj_nltL hc666950 (show Int32.toInt (-100) = (-100) by decide)
          have bg666941' : gB g666941 (-2147483647) (-100) := ⟨by omega, by omega⟩
          have x666981 : (3 : Int) ≤ (g666942.toInt - 0) := dgB_3 x666948 (by omega)
          refine G_iload_n 0 dr_cJ6_getChars_ba4f3_28 rfl ?_
          refine G_bipush 100 dr_cJ6_getChars_ba4f3_29 (by decide +kernel) ?_
          refine G_idiv dr_cJ6_getChars_ba4f3_31 (by decide) (G_nam fun z666982 hz666982 => ?_)
          have ez666982 : z666982.toInt = -((-g666941.toInt) / 100) := gI_divn hz666982 bg666941' (by decide) (by decide) (by decide)
          have bz666982 : gB z666982 (-21474836) (-1) := ⟨by omega, by omega⟩
          refine G_istore_n (L' := [(3, .int z666982), (0, .int g666941), (6, .int 0), (5, .int g666942), (1, .int p666823), (2, .ref q666821)]) dr_cJ6_getChars_ba4f3_32 (Nat.le_of_ble_eq_true rfl) rfl ?_
          refine G_iload_n 0 dr_cJ6_getChars_ba4f3_33 rfl ?_
          refine G_bipush 100 dr_cJ6_getChars_ba4f3_34 (by decide +kernel) ?_
          refine G_imul dr_cJ6_getChars_ba4f3_36 (G_nam fun z666983 hz666983 => ?_)
          have ez666983 : z666983.toInt = z666982.toInt * 100 := gI_mulK hz666983 (by decide) (by omega) (by omega)
          have bz666983 : gB z666983 (-2147483600) (-100) := ⟨by omega, by omega⟩
          refine G_iload_n 1 dr_cJ6_getChars_ba4f3_37 rfl ?_
          refine G_isub dr_cJ6_getChars_ba4f3_38 (G_nam fun z666984 hz666984 => ?_)
          have ez666984 : z666984.toInt = z666983.toInt - g666941.toInt := by rw [gI_sub hz666984 bz666983 bg666941' (by decide) (by decide)]
          have bz666984 : gB z666984 (-2147483500) 2147483547 := gB_sub (gI_sub hz666984 bz666983 bg666941' (by decide) (by decide)) bz666983 bg666941' (by decide) (by decide)
          refine G_istore (L' := [(4, .int z666984), (3, .int z666982), (0, .int g666941), (6, .int 0), (5, .int g666942), (1, .int p666823), (2, .ref q666821)]) dr_cJ6_getChars_ba4f3_39 (Nat.le_of_ble_eq_true rfl) rfl ?_
          refine G_iload_n 1 dr_cJ6_getChars_ba4f3_41 rfl ?_
          refine G_istore_n (L' := [(0, .int z666982), (4, .int z666984), (3, .int z666982), (6, .int 0), (5, .int g666942), (1, .int p666823), (2, .ref q666821)]) dr_cJ6_getChars_ba4f3_42 (Nat.le_of_ble_eq_true rfl) rfl ?_
          refine G_aload_n 6 dr_cJ6_getChars_ba4f3_43 rfl ?_
          have bg666942' : gB g666942 2 16777216 := ⟨by omega, by omega⟩
          obtain ⟨z666985, hz666985⟩ : ∃ z : Int32, z = g666942 + Int32.ofInt (-1) := ⟨_, rfl⟩
          have ez666985 : z666985.toInt = g666942.toInt + (-1) := gI_inc hz666985 (by decide) bg666942' (by decide) (by decide)
          have bz666985 : gB z666985 1 16777215 := ⟨by omega, by omega⟩
          refine G_iinc (L' := [(5, .int z666985), (0, .int z666982), (4, .int z666984), (3, .int z666982), (6, .int 0), (1, .int p666823), (2, .ref q666821)]) z666985 4 dr_cJ6_getChars_ba4f3_44 rfl hz666985.symm (Nat.le_of_ble_eq_true rfl) rfl ?_
          refine G_iload 0 dr_cJ6_getChars_ba4f3_47 rfl ?_
          refine G_gets dr_cJ6_getChars_ba4f3_49 wr_8_118 gr_on (fun x666987 hx666986 => ?_)
          subst hx666986
          refine G_iload 2 dr_cJ6_getChars_ba4f3_52 rfl ?_
          refine G_kbald (f := dg_O) dr_cJ6_getChars_ba4f3_54 gr_ont (gB_inr (by omega) (by omega)) (G_nam fun z666988 hz666988 => ?_)
          have bz666988 : gB z666988 (-2147483648) 2147483647 := gB_any z666988
          refine Gp_bast 1 hmq666821 he666945 dr_cJ6_getChars_ba4f3_55 rfl (gB_inr (by omega) (by omega)) (fun F666989 e666990 n666991 => ?_)
          obtain ⟨f666992, hf666992⟩ : ∃ z, z = upd f666943 z666985.toNatClampNeg (vp_nar .byte z666988) := ⟨_, rfl⟩
          rw [← hf666992] at e666990
          have he666993 : F666989 q666821 = .inl (I .byte, n666825, .inl f666992) := e666990
          have hfr666994 : rFr [q666821] P666819 F666820 F666989 := rFr_put' List.mem_cons_self hfr666946 n666991
          have bf666992 : gF f666992 (-128) 127 := gF_upd hf666992 bf666943 gB_byte
          refine G_aload_n 6 dr_cJ6_getChars_ba4f3_56 rfl ?_
          obtain ⟨z666995, hz666995⟩ : ∃ z : Int32, z = z666985 + Int32.ofInt (-1) := ⟨_, rfl⟩
          have ez666995 : z666995.toInt = z666985.toInt + (-1) := gI_inc hz666995 (by decide) bz666985 (by decide) (by decide)
          have bz666995 : gB z666995 0 16777214 := ⟨by omega, by omega⟩
          refine G_iinc (L' := [(5, .int z666995), (0, .int z666982), (4, .int z666984), (3, .int z666982), (6, .int 0), (1, .int p666823), (2, .ref q666821)]) z666995 0 dr_cJ6_getChars_ba4f3_57 rfl hz666995.symm (Nat.le_of_ble_eq_true rfl) rfl ?_
          refine G_iload 0 dr_cJ6_getChars_ba4f3_60 rfl ?_
          refine G_gets dr_cJ6_getChars_ba4f3_62 wr_8_120 gr_te (fun x666997 hx666996 => ?_)
          subst hx666996
          refine G_iload 2 dr_cJ6_getChars_ba4f3_65 rfl ?_
          refine G_kbald (f := dg_T) dr_cJ6_getChars_ba4f3_67 gr_tet (gB_inr (by omega) (by omega)) (G_nam fun z666998 hz666998 => ?_)
          have bz666998 : gB z666998 (-2147483648) 2147483647 := gB_any z666998
          refine Gp_bast 1 hmq666821 he666993 dr_cJ6_getChars_ba4f3_68 rfl (gB_inr (by omega) (by omega)) (fun F666999 e667000 n667001 => ?_)
          obtain ⟨f667002, hf667002⟩ : ∃ z, z = upd f666992 z666995.toNatClampNeg (vp_nar .byte z666998) := ⟨_, rfl⟩
          rw [← hf667002] at e667000
          have he667003 : F666999 q666821 = .inl (I .byte, n666825, .inl f667002) := e667000
          have hfr667004 : rFr [q666821] P666819 F666820 F666999 := rFr_put' List.mem_cons_self hfr666994 n667001
          have bf667002 : gF f667002 (-128) 127 := gF_upd hf667002 bf666992 gB_byte
          refine G_goto 22 dr_cJ6_getChars_ba4f3_69 (by decide +kernel) ?_
          refine G_lv (L' := [(0, .int z666982), (6, .int 0), (5, .int z666995), (1, .int p666823), (2, .ref q666821)]) [1, 4, 0, 5, 6] rfl ?_
          exact ih22_666949 F666999 z666982 z666995 f667002 (gB_w bz666982 (by decide) (by decide)) (gB_w bz666995 (by decide) (by decide)) bf667002 hfr667004 he667003 (by have qa0 : Int32.toInt 0 = 0 := (by decide); omega) (by have q10 : Int32.toInt 10 = 10 := (by decide); have q11 : Int32.toInt 11 = 11 := (by decide); first | exact dgB_up (dgS_ip x666827 (by omega) (by omega)) (by omega) (by omega) | exact dgB_up (dgS_in x666827 (by omega)) (by omega) (by omega) | exact dgB_up x666948 (by omega) (by omega) | exact dgB_up (dgB_st x666948 (by omega) (by omega) (by omega)) (by omega) (by omega)) (by have qa0 : Int32.toInt 0 = 0 := (by decide); omega) (fun k e1 e2 e3 ht => kt22_666949 k e1 e2 e3 (fun R c1 c2 => c2 g666941 g666942 f666943 z666982 z666983 z666984 z666985 z666988 f666992 z666995 z666998 f667002 k e1 e2 e3 bg666941 bg666942 r666980 ez666982 ez666983 ez666984 ez666985 hz666988 hf666992 ez666995 hz666998 hf667002 (ht R c1 c2))) (by have qa0 : Int32.toInt 0 = 0 := (by decide); omega)
    exact hlp22_666949 ((-z666832.toInt).toNat + 1) F666820 z666832 p666823 f666824 bz666832 bp666823 bf666824 (rFr_v (rFr_rf (W := []) (P := P666819) (F := F666820)) (fun b hn => nm_n)) heq666821 (by have qa0 : Int32.toInt 0 = 0 := (by decide); omega) (by have q10 : Int32.toInt 10 = 10 := (by decide); have q11 : Int32.toInt 11 = 11 := (by decide); first | exact dgB_up (dgS_ip x666827 (by omega) (by omega)) (by omega) (by omega) | exact dgB_up (dgS_in x666827 (by omega)) (by omega) (by omega)) (by have qa0 : Int32.toInt 0 = 0 := (by decide); omega) (fun k e1 e2 e3 ht => ht) (Nat.lt_succ_self _)
  · have r667005 : p666822.toInt < 0 := gj_nleL hc666830 (show Int32.toInt 0 = 0 by decide)
    have bp666822' : gB p666822 (-2147483648) (-1) := ⟨by omega, by omega⟩
    refine G_iconst 1 dr_cJ6_getChars_ba4f3_7 (by decide +kernel) ?_
    refine G_goto 12 dr_cJ6_getChars_ba4f3_8 (by decide +kernel) ?_
    refine G_istore (L' := [(6, .int 1), (5, .int p666823), (0, .int p666822), (1, .int p666823), (2, .ref q666821)]) dr_cJ6_getChars_ba4f3_12 (Nat.le_of_ble_eq_true rfl) rfl ?_
    refine G_iload 0 dr_cJ6_getChars_ba4f3_14 rfl ?_
    refine G_if_ne 22 dr_cJ6_getChars_ba4f3_16 (by decide +kernel) (fun _ => ?_) (fun hc => absurd hc (by decide))
    have hlp22_667150 : ∀ (n22_667150 : Nat) (F667145 : Nat → va_E) (g667142 : Int32) (g667143 : Int32) (f667144 : Nat → Int32), gB g667142 0 16777216 → gB g667143 (-2147483648) (-1) → gF f667144 (-128) 127 → rFr [q666821] P666819 F666820 F667145 → F667145 q666821 = .inl (I .byte, n666825, .inl f667144) → g667143.toInt ≤ 0 → dgB g667143.toInt (g667142.toInt - 1) → g667142.toInt ≤ p666823.toInt → (∀ (k : Nat) (e1 : Int32) (e2 : Int32) (e3 : Nat → Int32), tl_RInteger_getChars_22_2 g667142 g667143 f667144 k e1 e2 e3 → tl_RInteger_getChars_22_2 p666823 p666822 f666824 k e1 e2 e3) → (-g667143.toInt).toNat < n22_667150 → G (gV D I) l (gRm 0 0 0 0) (gMA (gV D I) (pp_666829_Integer_getChars D I P666819 F666820 q666821 p666822 p666823 f666824 n666825) gNA 0 0) ky_666829_Integer_getChars 22 [(6, .int 1), (5, .int g667142), (0, .int g667143), (1, .int p666823), (2, .ref q666821)] [] (va_pl P666819 F667145) 0 0 := by
      intro n22_667150
      induction n22_667150 with
      | zero => intro F667145 g667142 g667143 f667144 bg667142 bg667143 bf667144 hfr667147 he667146 x667148 x667149 x667150 kt22_667150 hm22_667150; exact absurd hm22_667150 (Nat.not_lt_zero _)
      | succ n22_667150 ih22_667150 =>
        intro F667145 g667142 g667143 f667144 bg667142 bg667143 bf667144 hfr667147 he667146 x667148 x667149 x667150 kt22_667150 hm22_667150
        refine G_iload_n 2 dr_cJ6_getChars_ba4f3_22 rfl ?_
        refine G_bipush (-100) dr_cJ6_getChars_ba4f3_23 (by decide +kernel) ?_
        refine G_icmp_gt 72 dr_cJ6_getChars_ba4f3_25 (by decide +kernel) (fun hc667151 => ?_) (fun hc667151 => ?_)
        · have r667152 : (-100) < g667143.toInt := gj_ltL hc667151 (show Int32.toInt (-100) = (-100) by decide)
          have bg667143' : gB g667143 (-99) (-1) := ⟨by omega, by omega⟩
          have hx667153 : tl_RInteger_getChars_22_2 p666823 p666822 f666824 72 g667142 g667143 f667144 := kt22_667150 72 g667142 g667143 f667144 (fun R c1 c2 => c1 g667142 g667143 f667144 bg667142 bg667143 r667152)
          have x667154 : (1 : Int) ≤ (g667142.toInt - 1) := dgB_1 x667149
          refine G_aload_n 4 dr_cJ6_getChars_ba4f3_72 rfl ?_
          have bg667142' : gB g667142 1 16777216 := ⟨by omega, by omega⟩
          obtain ⟨z667155, hz667155⟩ : ∃ z : Int32, z = g667142 + Int32.ofInt (-1) := ⟨_, rfl⟩
          have ez667155 : z667155.toInt = g667142.toInt + (-1) := gI_inc hz667155 (by decide) bg667142' (by decide) (by decide)
          have bz667155 : gB z667155 0 16777215 := ⟨by omega, by omega⟩
          refine G_iinc (L' := [(5, .int z667155), (6, .int 1), (0, .int g667143), (1, .int p666823), (2, .ref q666821)]) z667155 1 dr_cJ6_getChars_ba4f3_73 rfl hz667155.symm (Nat.le_of_ble_eq_true rfl) rfl ?_
          refine G_iload 0 dr_cJ6_getChars_ba4f3_76 rfl ?_
          refine G_gets dr_cJ6_getChars_ba4f3_78 wr_8_118 gr_on (fun x667157 hx667156 => ?_)
          subst hx667156
          refine G_iload_n 2 dr_cJ6_getChars_ba4f3_81 rfl ?_
          refine G_ineg dr_cJ6_getChars_ba4f3_82 (G_nam fun z667158 hz667158 => ?_)
          have ez667158 : z667158.toInt = -g667143.toInt := gI_neg hz667158 bg667143' (by decide)
          have bz667158 : gB z667158 1 99 := ⟨by omega, by omega⟩
          refine G_kbald (f := dg_O) dr_cJ6_getChars_ba4f3_83 gr_ont (gB_inr (by omega) (by omega)) (G_nam fun z667159 hz667159 => ?_)
          have bz667159 : gB z667159 (-2147483648) 2147483647 := gB_any z667159
          refine Gp_bast 1 hmq666821 he667146 dr_cJ6_getChars_ba4f3_84 rfl (gB_inr (by omega) (by omega)) (fun F667160 e667161 n667162 => ?_)
          obtain ⟨f667163, hf667163⟩ : ∃ z, z = upd f667144 z667155.toNatClampNeg (vp_nar .byte z667159) := ⟨_, rfl⟩
          rw [← hf667163] at e667161
          have he667164 : F667160 q666821 = .inl (I .byte, n666825, .inl f667163) := e667161
          have hfr667165 : rFr [q666821] P666819 F666820 F667160 := rFr_put' List.mem_cons_self hfr667147 n667162
          have bf667163 : gF f667163 (-128) 127 := gF_upd hf667163 bf667144 gB_byte
          refine G_iload_n 2 dr_cJ6_getChars_ba4f3_85 rfl ?_
          refine G_bipush (-9) dr_cJ6_getChars_ba4f3_86 (by decide +kernel) ?_
          refine G_icmp_ge 104 dr_cJ6_getChars_ba4f3_88 (by decide +kernel) (fun hc667166 => ?_) (fun hc667166 => ?_)
          · have r667167 : (-9) ≤ g667143.toInt := gj_leL hc667166 (show Int32.toInt (-9) = (-9) by decide)
            have bg667143'' : gB g667143 (-9) (-1) := ⟨by omega, by omega⟩
            refine G_iload 1 dr_cJ6_getChars_ba4f3_104 rfl ?_
            refine G_if_eq 118 dr_cJ6_getChars_ba4f3_106 (by decide +kernel) (fun hc => absurd hc (by decide)) (fun _ => ?_)
            refine G_aload_n 4 dr_cJ6_getChars_ba4f3_109 rfl ?_
            have bz667155' : gB z667155 1 16777215 := ⟨by omega, by omega⟩
            obtain ⟨z667168, hz667168⟩ : ∃ z : Int32, z = z667155 + Int32.ofInt (-1) := ⟨_, rfl⟩
            have ez667168 : z667168.toInt = z667155.toInt + (-1) := gI_inc hz667168 (by decide) bz667155' (by decide) (by decide)
            have bz667168 : gB z667168 0 16777214 := ⟨by omega, by omega⟩
            refine G_iinc (L' := [(5, .int z667168), (6, .int 1), (0, .int g667143), (1, .int p666823), (2, .ref q666821)]) z667168 0 dr_cJ6_getChars_ba4f3_110 rfl hz667168.symm (Nat.le_of_ble_eq_true rfl) rfl ?_
            refine G_iload 0 dr_cJ6_getChars_ba4f3_113 rfl ?_
            refine G_bipush 45 dr_cJ6_getChars_ba4f3_115 (by decide +kernel) ?_
            refine Gp_bast 1 hmq666821 he667164 dr_cJ6_getChars_ba4f3_117 rfl (gB_inr (by omega) (by omega)) (fun F667169 e667170 n667171 => ?_)
            obtain ⟨f667172, hf667172⟩ : ∃ z, z = upd f667163 z667168.toNatClampNeg (vp_nar .byte 45) := ⟨_, rfl⟩
            rw [← hf667172] at e667170
            have he667173 : F667169 q666821 = .inl (I .byte, n666825, .inl f667172) := e667170
            have hfr667174 : rFr [q666821] P666819 F666820 F667169 := rFr_put' List.mem_cons_self hfr667165 n667171
            have bf667172 : gF f667172 (-128) 127 := gF_upd hf667172 bf667163 gB_byte
            refine G_iload 0 dr_cJ6_getChars_ba4f3_118 rfl ?_
            exact G_iretA dr_cJ6_getChars_ba4f3_120 rfl (Nat.le_of_ble_eq_true rfl) (Nat.le_of_ble_eq_true rfl) ⟨F667169, z667168, f667172, rfl, rfl, hfr667174, he667173, (Nat.le_of_ble_eq_true rfl), (Nat.le_of_ble_eq_true rfl), (gB_w bz667168 (by decide) (by decide)), bf667172, (fun R c1 c2 c3 c4 => c3 g667142 g667143 f667144 z667155 z667158 z667159 f667163 z667168 f667172 r667005 hx667153 ez667155 hz667158 hz667159 hf667163 r667167 ez667168 hf667172)⟩
          · have r667175 : g667143.toInt < (-9) := gj_nleL hc667166 (show Int32.toInt (-9) = (-9) by decide)
            have bg667143'' : gB g667143 (-99) (-10) := ⟨by omega, by omega⟩
            have x667176 : (2 : Int) ≤ (g667142.toInt - 1) := dgB_2 x667149 (by omega)
            refine G_aload_n 4 dr_cJ6_getChars_ba4f3_91 rfl ?_
            have bz667155' : gB z667155 1 16777215 := ⟨by omega, by omega⟩
            obtain ⟨z667177, hz667177⟩ : ∃ z : Int32, z = z667155 + Int32.ofInt (-1) := ⟨_, rfl⟩
            have ez667177 : z667177.toInt = z667155.toInt + (-1) := gI_inc hz667177 (by decide) bz667155' (by decide) (by decide)
            have bz667177 : gB z667177 0 16777214 := ⟨by omega, by omega⟩
            refine G_iinc (L' := [(5, .int z667177), (6, .int 1), (0, .int g667143), (1, .int p666823), (2, .ref q666821)]) z667177 0 dr_cJ6_getChars_ba4f3_92 rfl hz667177.symm (Nat.le_of_ble_eq_true rfl) rfl ?_
            refine G_iload 0 dr_cJ6_getChars_ba4f3_95 rfl ?_
            refine G_gets dr_cJ6_getChars_ba4f3_97 wr_8_120 gr_te (fun x667179 hx667178 => ?_)
            subst hx667178
            refine G_iload_n 2 dr_cJ6_getChars_ba4f3_100 rfl ?_
            refine G_ineg dr_cJ6_getChars_ba4f3_101 (G_nam fun z667180 hz667180 => ?_)
            have ez667180 : z667180.toInt = -g667143.toInt := gI_neg hz667180 bg667143'' (by decide)
            have bz667180 : gB z667180 10 99 := ⟨by omega, by omega⟩
            refine G_kbald (f := dg_T) dr_cJ6_getChars_ba4f3_102 gr_tet (gB_inr (by omega) (by omega)) (G_nam fun z667181 hz667181 => ?_)
            have bz667181 : gB z667181 (-2147483648) 2147483647 := gB_any z667181
            refine Gp_bast 1 hmq666821 he667164 dr_cJ6_getChars_ba4f3_103 rfl (gB_inr (by omega) (by omega)) (fun F667182 e667183 n667184 => ?_)
            obtain ⟨f667185, hf667185⟩ : ∃ z, z = upd f667163 z667177.toNatClampNeg (vp_nar .byte z667181) := ⟨_, rfl⟩
            rw [← hf667185] at e667183
            have he667186 : F667182 q666821 = .inl (I .byte, n666825, .inl f667185) := e667183
            have hfr667187 : rFr [q666821] P666819 F666820 F667182 := rFr_put' List.mem_cons_self hfr667165 n667184
            have bf667185 : gF f667185 (-128) 127 := gF_upd hf667185 bf667163 gB_byte
            refine G_iload 1 dr_cJ6_getChars_ba4f3_104 rfl ?_
            refine G_if_eq 118 dr_cJ6_getChars_ba4f3_106 (by decide +kernel) (fun hc => absurd hc (by decide)) (fun _ => ?_)
            refine G_aload_n 4 dr_cJ6_getChars_ba4f3_109 rfl ?_
            have bz667177' : gB z667177 1 16777214 := ⟨by omega, by omega⟩
            obtain ⟨z667188, hz667188⟩ : ∃ z : Int32, z = z667177 + Int32.ofInt (-1) := ⟨_, rfl⟩
            have ez667188 : z667188.toInt = z667177.toInt + (-1) := gI_inc hz667188 (by decide) bz667177' (by decide) (by decide)
            have bz667188 : gB z667188 0 16777213 := ⟨by omega, by omega⟩
            refine G_iinc (L' := [(5, .int z667188), (6, .int 1), (0, .int g667143), (1, .int p666823), (2, .ref q666821)]) z667188 0 dr_cJ6_getChars_ba4f3_110 rfl hz667188.symm (Nat.le_of_ble_eq_true rfl) rfl ?_
            refine G_iload 0 dr_cJ6_getChars_ba4f3_113 rfl ?_
            refine G_bipush 45 dr_cJ6_getChars_ba4f3_115 (by decide +kernel) ?_
            refine Gp_bast 1 hmq666821 he667186 dr_cJ6_getChars_ba4f3_117 rfl (gB_inr (by omega) (by omega)) (fun F667189 e667190 n667191 => ?_)
            obtain ⟨f667192, hf667192⟩ : ∃ z, z = upd f667185 z667188.toNatClampNeg (vp_nar .byte 45) := ⟨_, rfl⟩
            rw [← hf667192] at e667190
            have he667193 : F667189 q666821 = .inl (I .byte, n666825, .inl f667192) := e667190
            have hfr667194 : rFr [q666821] P666819 F666820 F667189 := rFr_put' List.mem_cons_self hfr667187 n667191
            have bf667192 : gF f667192 (-128) 127 := gF_upd hf667192 bf667185 gB_byte
            refine G_iload 0 dr_cJ6_getChars_ba4f3_118 rfl ?_
            exact G_iretA dr_cJ6_getChars_ba4f3_120 rfl (Nat.le_of_ble_eq_true rfl) (Nat.le_of_ble_eq_true rfl) ⟨F667189, z667188, f667192, rfl, rfl, hfr667194, he667193, (Nat.le_of_ble_eq_true rfl), (Nat.le_of_ble_eq_true rfl), (gB_w bz667188 (by decide) (by decide)), bf667192, (fun R c1 c2 c3 c4 => c4 g667142 g667143 f667144 z667155 z667158 z667159 f667163 z667177 z667180 z667181 f667185 z667188 f667192 r667005 hx667153 ez667155 hz667158 hz667159 hf667163 r667175 ez667177 hz667180 hz667181 hf667185 ez667188 hf667192)⟩
        · have r667195 : g667143.toInt ≤ (-100) := gj_nltL hc667151 (show Int32.toInt (-100) = (-100) by decide)
          have bg667143' : gB g667143 (-2147483648) (-100) := ⟨by omega, by omega⟩
          have x667196 : (3 : Int) ≤ (g667142.toInt - 1) := dgB_3 x667149 (by omega)
          refine G_iload_n 2 dr_cJ6_getChars_ba4f3_28 rfl ?_
          refine G_bipush 100 dr_cJ6_getChars_ba4f3_29 (by decide +kernel) ?_
          refine G_idiv dr_cJ6_getChars_ba4f3_31 (by decide) (G_nam fun z667197 hz667197 => ?_)
          have ez667197 : z667197.toInt = -((-g667143.toInt) / 100) := gI_divn hz667197 bg667143' (by decide) (by decide) (by decide)
          have bz667197 : gB z667197 (-21474836) (-1) := ⟨by omega, by omega⟩
          refine G_istore_n (L' := [(3, .int z667197), (6, .int 1), (5, .int g667142), (0, .int g667143), (1, .int p666823), (2, .ref q666821)]) dr_cJ6_getChars_ba4f3_32 (Nat.le_of_ble_eq_true rfl) rfl ?_
          refine G_iload_n 0 dr_cJ6_getChars_ba4f3_33 rfl ?_
          refine G_bipush 100 dr_cJ6_getChars_ba4f3_34 (by decide +kernel) ?_
          refine G_imul dr_cJ6_getChars_ba4f3_36 (G_nam fun z667198 hz667198 => ?_)
          have ez667198 : z667198.toInt = z667197.toInt * 100 := gI_mulK hz667198 (by decide) (by omega) (by omega)
          have bz667198 : gB z667198 (-2147483600) (-100) := ⟨by omega, by omega⟩
          refine G_iload_n 3 dr_cJ6_getChars_ba4f3_37 rfl ?_
          refine G_isub dr_cJ6_getChars_ba4f3_38 (G_nam fun z667199 hz667199 => ?_)
          have ez667199 : z667199.toInt = z667198.toInt - g667143.toInt := by rw [gI_sub hz667199 bz667198 bg667143' (by decide) (by decide)]
          have bz667199 : gB z667199 (-2147483500) 2147483548 := gB_sub (gI_sub hz667199 bz667198 bg667143' (by decide) (by decide)) bz667198 bg667143' (by decide) (by decide)
          refine G_istore (L' := [(4, .int z667199), (3, .int z667197), (6, .int 1), (5, .int g667142), (0, .int g667143), (1, .int p666823), (2, .ref q666821)]) dr_cJ6_getChars_ba4f3_39 (Nat.le_of_ble_eq_true rfl) rfl ?_
          refine G_iload_n 1 dr_cJ6_getChars_ba4f3_41 rfl ?_
          refine G_istore_n (L' := [(0, .int z667197), (4, .int z667199), (3, .int z667197), (6, .int 1), (5, .int g667142), (1, .int p666823), (2, .ref q666821)]) dr_cJ6_getChars_ba4f3_42 (Nat.le_of_ble_eq_true rfl) rfl ?_
          refine G_aload_n 6 dr_cJ6_getChars_ba4f3_43 rfl ?_
          have bg667142' : gB g667142 2 16777216 := ⟨by omega, by omega⟩
          obtain ⟨z667200, hz667200⟩ : ∃ z : Int32, z = g667142 + Int32.ofInt (-1) := ⟨_, rfl⟩
          have ez667200 : z667200.toInt = g667142.toInt + (-1) := gI_inc hz667200 (by decide) bg667142' (by decide) (by decide)
          have bz667200 : gB z667200 1 16777215 := ⟨by omega, by omega⟩
          refine G_iinc (L' := [(5, .int z667200), (0, .int z667197), (4, .int z667199), (3, .int z667197), (6, .int 1), (1, .int p666823), (2, .ref q666821)]) z667200 4 dr_cJ6_getChars_ba4f3_44 rfl hz667200.symm (Nat.le_of_ble_eq_true rfl) rfl ?_
          refine G_iload 0 dr_cJ6_getChars_ba4f3_47 rfl ?_
          refine G_gets dr_cJ6_getChars_ba4f3_49 wr_8_118 gr_on (fun x667202 hx667201 => ?_)
          subst hx667201
          refine G_iload 2 dr_cJ6_getChars_ba4f3_52 rfl ?_
          refine G_kbald (f := dg_O) dr_cJ6_getChars_ba4f3_54 gr_ont (gB_inr (by omega) (by omega)) (G_nam fun z667203 hz667203 => ?_)
          have bz667203 : gB z667203 (-2147483648) 2147483647 := gB_any z667203
          refine Gp_bast 1 hmq666821 he667146 dr_cJ6_getChars_ba4f3_55 rfl (gB_inr (by omega) (by omega)) (fun F667204 e667205 n667206 => ?_)
          obtain ⟨f667207, hf667207⟩ : ∃ z, z = upd f667144 z667200.toNatClampNeg (vp_nar .byte z667203) := ⟨_, rfl⟩
          rw [← hf667207] at e667205
          have he667208 : F667204 q666821 = .inl (I .byte, n666825, .inl f667207) := e667205
          have hfr667209 : rFr [q666821] P666819 F666820 F667204 := rFr_put' List.mem_cons_self hfr667147 n667206
          have bf667207 : gF f667207 (-128) 127 := gF_upd hf667207 bf667144 gB_byte
          refine G_aload_n 6 dr_cJ6_getChars_ba4f3_56 rfl ?_
          obtain ⟨z667210, hz667210⟩ : ∃ z : Int32, z = z667200 + Int32.ofInt (-1) := ⟨_, rfl⟩
          have ez667210 : z667210.toInt = z667200.toInt + (-1) := gI_inc hz667210 (by decide) bz667200 (by decide) (by decide)
          have bz667210 : gB z667210 0 16777214 := ⟨by omega, by omega⟩
          refine G_iinc (L' := [(5, .int z667210), (0, .int z667197), (4, .int z667199), (3, .int z667197), (6, .int 1), (1, .int p666823), (2, .ref q666821)]) z667210 0 dr_cJ6_getChars_ba4f3_57 rfl hz667210.symm (Nat.le_of_ble_eq_true rfl) rfl ?_
          refine G_iload 0 dr_cJ6_getChars_ba4f3_60 rfl ?_
          refine G_gets dr_cJ6_getChars_ba4f3_62 wr_8_120 gr_te (fun x667212 hx667211 => ?_)
          subst hx667211
          refine G_iload 2 dr_cJ6_getChars_ba4f3_65 rfl ?_
          refine G_kbald (f := dg_T) dr_cJ6_getChars_ba4f3_67 gr_tet (gB_inr (by omega) (by omega)) (G_nam fun z667213 hz667213 => ?_)
          have bz667213 : gB z667213 (-2147483648) 2147483647 := gB_any z667213
          refine Gp_bast 1 hmq666821 he667208 dr_cJ6_getChars_ba4f3_68 rfl (gB_inr (by omega) (by omega)) (fun F667214 e667215 n667216 => ?_)
          obtain ⟨f667217, hf667217⟩ : ∃ z, z = upd f667207 z667210.toNatClampNeg (vp_nar .byte z667213) := ⟨_, rfl⟩
          rw [← hf667217] at e667215
          have he667218 : F667214 q666821 = .inl (I .byte, n666825, .inl f667217) := e667215
          have hfr667219 : rFr [q666821] P666819 F666820 F667214 := rFr_put' List.mem_cons_self hfr667209 n667216
          have bf667217 : gF f667217 (-128) 127 := gF_upd hf667217 bf667207 gB_byte
          refine G_goto 22 dr_cJ6_getChars_ba4f3_69 (by decide +kernel) ?_
          refine G_lv (L' := [(6, .int 1), (5, .int z667210), (0, .int z667197), (1, .int p666823), (2, .ref q666821)]) [4, 0, 1, 5, 6] rfl ?_
          exact ih22_667150 F667214 z667210 z667197 f667217 (gB_w bz667210 (by decide) (by decide)) (gB_w bz667197 (by decide) (by decide)) bf667217 hfr667219 he667218 (by have qa0 : Int32.toInt 1 = 1 := (by decide); omega) (by have q10 : Int32.toInt 10 = 10 := (by decide); have q11 : Int32.toInt 11 = 11 := (by decide); first | exact dgB_up (dgS_ip x666827 (by omega) (by omega)) (by omega) (by omega) | exact dgB_up (dgS_in x666827 (by omega)) (by omega) (by omega) | exact dgB_up x667149 (by omega) (by omega) | exact dgB_up (dgB_st x667149 (by omega) (by omega) (by omega)) (by omega) (by omega)) (by have qa0 : Int32.toInt 1 = 1 := (by decide); omega) (fun k e1 e2 e3 ht => kt22_667150 k e1 e2 e3 (fun R c1 c2 => c2 g667142 g667143 f667144 z667197 z667198 z667199 z667200 z667203 f667207 z667210 z667213 f667217 k e1 e2 e3 bg667142 bg667143 r667195 ez667197 ez667198 ez667199 ez667200 hz667203 hf667207 ez667210 hz667213 hf667217 (ht R c1 c2))) (by have qa0 : Int32.toInt 1 = 1 := (by decide); omega)
    exact hlp22_667150 ((-p666822.toInt).toNat + 1) F666820 p666823 p666822 f666824 bp666823 bp666822' bf666824 (rFr_v (rFr_rf (W := []) (P := P666819) (F := F666820)) (fun b hn => nm_n)) heq666821 (by have qa0 : Int32.toInt 1 = 1 := (by decide); omega) (by have q10 : Int32.toInt 10 = 10 := (by decide); have q11 : Int32.toInt 11 = 11 := (by decide); first | exact dgB_up (dgS_ip x666827 (by omega) (by omega)) (by omega) (by omega) | exact dgB_up (dgS_in x666827 (by omega)) (by omega) (by omega)) (by have qa0 : Int32.toInt 1 = 1 := (by decide); omega) (fun k e1 e2 e3 ht => ht) (Nat.lt_succ_self _)
/- tr_RAbstractStringBuilder_append7: a.0...count, a.0.value.#, a.0.value.[] -/
def tr_RAbstractStringBuilder_append7 (a1 : Int32) (a0_count : Int32) (a0_value_v : Nat → Int32) (a0_value_n : Nat) (o1 : Int32) (o2 : Nat) (o3 : Nat → Int32) : Prop := ∀ R : (Int32) → (Nat) → (Nat → Int32) → Prop,
  (∀ (x1 : Int32) (x2 : Int32) (x3 : Nat) (x4 : Nat → Int32) (x5 : Int32) (x6 : Nat → Int32), gB x1 1 11 → tr_RInteger_stringSize a1 x1 → x2.toInt = a0_count.toInt + x1.toInt → tr_RAbstractStringBuilder_ensureCapacityInternal2 x2 a0_value_v a0_value_n x3 x4 → gB x5 0 16777215 → tr_RInteger_getChars a1 x2 x4 x5 x6 → R x2 x3 x6) →
  R o1 o2 o3
abbrev ky_666642_AbstractStringBuilder_append : gKey := (cJ5_append_c97b9, 4, "java/lang/AbstractStringBuilder", (some (FieldType.object "java/lang/AbstractStringBuilder")), [], "append", fun _ _ => True)
def pp_666642_AbstractStringBuilder_append (D : va_G) (I : FieldType → ClassId) (P666630 : List Nat) (F666631 : Nat → va_E) (q666632 : Nat) (q666633 : Nat) (p666634 : Int32) (p666635 : Int32) (p666636 : Int32) (f666637 : Nat → Int32) (n666638 : Nat) : Option Value → va_W → Nat → Nat → Prop := fun r w dc ds => ∃ (P667248 : List Nat) (F667249 : Nat → va_E) (o667244 : Int32) (q667245 : Nat) (n667246 : Nat) (f667247 : Nat → Int32), r = some (.ref q666632) ∧ w = va_pl P667248 F667249 ∧ rSub P666630 P667248 ∧ rFr [q666632, q666633] P666630 F666631 F667249 ∧ F667249 q666632 = .inr (1, [.ref q667245, .int 0, .int p666635, .int o667244]) ∧ F667249 q667245 = .inl (I .byte, n667246, .inl f667247) ∧ q667245 ∈ P667248 ∧ (q667245 = q666633 ∨ q667245 ∉ P666630) ∧ dc ≤ 1 ∧ ds ≤ 2 * (n667246 - n666638) ∧ gB o667244 1 16777216 ∧ gF f667247 (-128) 127 ∧ p666636.toInt ≤ o667244.toInt ∧ o667244.toInt ≤ p666636.toInt + 11 ∧ o667244.toInt ≤ (n667246 : Int) ∧ (n666638 : Int) ≤ (n667246 : Int) ∧ ((n667246 : Int) ≤ 2 * (n666638 : Int) + 2 ∨ (n667246 : Int) ≤ p666636.toInt + 11) ∧ tr_RAbstractStringBuilder_append7 p666634 p666636 f666637 n666638 o667244 n667246 f667247
set_option maxRecDepth 100000 in
set_option maxHeartbeats 4000000 in
theorem cp_666642_AbstractStringBuilder_append (l : Launch) (hl0 : l.stackTraces = false) (D : va_G) (I : FieldType → ClassId) (P666630 : List Nat) (F666631 : Nat → va_E) (q666632 : Nat) (q666633 : Nat) (p666634 : Int32) (p666635 : Int32) (p666636 : Int32) (f666637 : Nat → Int32) (n666638 : Nat) (hmq666632 : q666632 ∈ P666630) (hmq666633 : q666633 ∈ P666630) (heq666632 : F666631 q666632 = .inr (1, [.ref q666633, .int 0, .int p666635, .int p666636])) (heq666633 : F666631 q666633 = .inl (I .byte, n666638, .inl f666637)) (bp666635 : gB p666635 0 1) (bp666636 : gB p666636 0 16777216) (bf666637 : gF f666637 (-128) 127) (x666639 : (n666638 : Int) ≤ 8388608 - 100000) (x666640 : p666636.toInt ≤ (n666638 : Int)) (x666641 : ((n666638 : Int) ≤ 16777216)) : CtA (gV D I) l yJ5_append_c97b9 cJ5_append_c97b9 4 (some (FieldType.object "java/lang/AbstractStringBuilder")) 4 84 1 (4 * n666638 + 64) [.ref q666632, .int p666634] (va_pl P666630 F666631) (pp_666642_AbstractStringBuilder_append D I P666630 F666631 q666632 q666633 p666634 p666635 p666636 f666637 n666638) gNA := by
  refine CtA_ofF hl0 (by decide +kernel) (Nat.le_of_ble_eq_true rfl) ?_
  have bp666634 := gB_any p666634
  refine G_aload_n 0 dr_cJ5_append_c97b9_0 rfl ?_
  refine Gp_get 3 hmq666632 heq666632 dr_cJ5_append_c97b9_1 (gk_J4 D I) (Nat.le_of_ble_eq_true rfl) wr_7_64 rfl ?_
  refine G_istore_n (L' := [(2, .int p666636), (0, .ref q666632), (1, .int p666634)]) dr_cJ5_append_c97b9_4 (Nat.le_of_ble_eq_true rfl) rfl ?_
  refine G_iload_n 0 dr_cJ5_append_c97b9_5 rfl ?_
  refine G_iload_n 2 dr_cJ5_append_c97b9_6 rfl ?_
  refine Gw_callS (As := [.int p666634]) (gV_ok D I) (cp_666646_Integer_stringSize l hl0 D I P666630 F666631 p666634 ) dr_cJ5_append_c97b9_7 ⟨wr_8_112, wr_1_35, wr_8_114, by decide, rfl, (Nat.le_of_ble_eq_true rfl), (Nat.le_of_ble_eq_true rfl)⟩ wr_8_113 (show 0 + 0 ≤ 1 by first | omega | decide) (show 0 + 0 ≤ (4 * n666638 + 64) by first | omega | decide) (Nat.le_of_ble_eq_true rfl) (fun r666781 w666782 dc666778 ds666779 hp666780 => ?_) (fun _ _ _ _ _ z => z.elim)
  obtain ⟨o666783, rfl, rfl, hdc, hds, bo666783, x666784, ht666785⟩ := hp666780
  change G _ _ _ _ _ _ _ (.int o666783 :: _) _ _ _
  refine G_widen (cs' := 0) (sl' := 0) (by omega) (by omega) ?_
  refine G_iadd dr_cJ5_append_c97b9_10 (G_nam fun z666786 hz666786 => ?_)
  have ez666786 : z666786.toInt = p666636.toInt + o666783.toInt := by rw [gI_add hz666786 bp666636 bo666783 (by decide) (by decide)]
  have bz666786 : gB z666786 1 16777227 := gB_add (gI_add hz666786 bp666636 bo666783 (by decide) (by decide)) bp666636 bo666783 (by decide) (by decide)
  refine G_istore_n (L' := [(3, .int z666786), (2, .int p666636), (0, .ref q666632), (1, .int p666634)]) dr_cJ5_append_c97b9_11 (Nat.le_of_ble_eq_true rfl) rfl ?_
  refine G_aload_n 2 dr_cJ5_append_c97b9_12 rfl ?_
  refine G_iload_n 0 dr_cJ5_append_c97b9_13 rfl ?_
  refine Gw_callVB (As := [.int z666786]) (gV_ok D I) (cp_657891_AbstractStringBuilder_ensureCapacityInternal l hl0 D I P666630 F666631 q666632 q666633 z666786 p666635 p666636 f666637 n666638 hmq666632 hmq666633 heq666632 heq666633 ⟨by omega, by omega⟩ bp666635 bp666636 bf666637 (by have qa0 : Int32.toInt 0 = 0 := (by decide); omega) (by have qa0 : Int32.toInt 0 = 0 := (by decide); omega)) dr_cJ5_append_c97b9_14 ⟨wr_8_4, wr_1_19, wr_8_7, by decide, rfl, (Nat.le_of_ble_eq_true rfl), (Nat.le_of_ble_eq_true rfl)⟩ wr_8_6 wr_s_0 hmq666632 heq666632 rfl (show 0 + 1 ≤ 1 by first | omega | decide) (show 0 + (2 * n666638 + 2 + z666786.toInt.toNat) ≤ (4 * n666638 + 64) by first | omega | decide) (Nat.le_of_ble_eq_true rfl) (fun r666790 w666791 dc666787 ds666788 hp666789 => ?_) (fun _ _ _ _ _ z => z.elim)
  obtain ⟨P666800, F666801, q666792, n666793, f666794, rfl, rfl, hsb666802, hfr666803, he666804, he666805, hm666806, hq666807, hdc, hds, bf666794, x666795, x666796, x666797, x666798, ht666799⟩ := hp666789
  have hm666808 : q666632 ∈ P666800 := hsb666802 q666632 hmq666632
  have hm666809 : q666633 ∈ P666800 := hsb666802 q666633 hmq666633
  have hor666810 : q666792 = q666633 ∨ q666792 ∉ P666630 := hq666807.elim Or.inl (fun n => Or.inr (fun z => n ((rSub_rf (P := P666630)) _ z)))
  have hsb666811 : rSub P666630 P666800 := rSub_tr (rSub_rf (P := P666630)) hsb666802
  have he666812 : F666801 q666633 = .inl (I .byte, n666638, .inl f666637) := (hfr666803 q666633 hmq666633 (nm_c (rn_ao heq666633 heq666632) nm_n)).trans heq666633
  have hfr666813 : rFr [q666632] P666630 F666631 F666801 := rFr_call (rSub_rf (P := P666630)) (rFr_rf (W := []) (P := P666630) (F := F666631)) hfr666803 (fun b hb hn => ⟨nm_n, (nm_c (fun e => hn (e ▸ List.mem_cons_self)) nm_n)⟩)
  change G _ _ _ _ _ _ _ _ _ _ _
  refine G_widen (cs' := 1) (sl' := 2 * (n666793 - n666638)) (by omega) (by omega) ?_
  refine G_aload_n 2 dr_cJ5_append_c97b9_17 rfl ?_
  refine Gw_callVB (As := []) (gV_ok D I) (cp_657792_AbstractStringBuilder_isLatin1 l hl0 D I P666800 F666801 q666632 q666792 p666635 p666636 f666794 n666793 hm666808 hm666806 he666804 he666805 bp666635 bp666636 bf666794 (by have qa0 : Int32.toInt 0 = 0 := (by decide); omega)) dr_cJ5_append_c97b9_18 ⟨wr_8_33, wr_1_19, wr_8_37, by decide, rfl, (Nat.le_of_ble_eq_true rfl), (Nat.le_of_ble_eq_true rfl)⟩ wr_8_34 wr_8_36 hm666808 he666804 rfl (show 1 + 0 ≤ 1 by first | omega | decide) (show 2 * (n666793 - n666638) + 0 ≤ (4 * n666638 + 64) by first | omega | decide) (Nat.le_of_ble_eq_true rfl) (fun r666817 w666818 dc666814 ds666815 hp666816 => ?_) (fun _ _ _ _ _ z => z.elim)
  obtain ⟨rfl, rfl, hdc, hds⟩ := hp666816
  change G _ _ _ _ _ _ _ (.int 1 :: _) _ _ _
  refine G_widen (cs' := 1) (sl' := 2 * (n666793 - n666638) + 0) (by omega) (by omega) ?_
  refine G_if_eq 37 dr_cJ5_append_c97b9_21 (by decide +kernel) (fun hc => absurd hc (by decide)) (fun _ => ?_)
  refine G_iload_n 3 dr_cJ5_append_c97b9_24 rfl ?_
  refine G_iload_n 0 dr_cJ5_append_c97b9_25 rfl ?_
  refine G_aload_n 2 dr_cJ5_append_c97b9_26 rfl ?_
  refine Gp_get 0 hm666808 he666804 dr_cJ5_append_c97b9_27 (gk_J4 D I) (Nat.le_of_ble_eq_true rfl) wr_7_60 rfl ?_
  refine Gw_callS (As := [.int p666634, .int z666786, .ref q666792]) (gV_ok D I) (cp_666829_Integer_getChars l hl0 D I P666800 F666801 q666792 p666634 z666786 f666794 n666793 hm666806 he666805 ⟨by omega, by omega⟩ bf666794 (by have qa0 : Int32.toInt 0 = 0 := (by decide); omega) (by have q10 : Int32.toInt 10 = 10 := (by decide); have q11 : Int32.toInt 11 = 11 := (by decide); first | exact dgS_up (by omega) (by omega) x666784 (by omega)) (by have qa0 : Int32.toInt 0 = 0 := (by decide); omega)) dr_cJ5_append_c97b9_30 ⟨wr_8_115, wr_1_35, wr_8_117, by decide, rfl, (Nat.le_of_ble_eq_true rfl), (Nat.le_of_ble_eq_true rfl)⟩ wr_8_116 (show 1 + 0 ≤ 1 by first | omega | decide) (show 2 * (n666793 - n666638) + 0 + 0 ≤ (4 * n666638 + 64) by first | omega | decide) (Nat.le_of_ble_eq_true rfl) (fun r667227 w667228 dc667224 ds667225 hp667226 => ?_) (fun _ _ _ _ _ z => z.elim)
  obtain ⟨F667232, o667229, f667230, rfl, rfl, hfr667234, he667235, hdc, hds, bo667229, bf667230, ht667231⟩ := hp667226
  have he667236 : F667232 q666632 = .inr (1, [.ref q666792, .int 0, .int p666635, .int p666636]) := (hfr667234 q666632 hm666808 (nm_c (rn_oa he666804 he666805) nm_n)).trans he666804
  have hfr667237 : rFr [q666632, q666633] P666630 F666631 F667232 := rFr_call hsb666811 hfr666813 hfr667234 (fun b hb hn => ⟨(nm_c (fun e => hn (e ▸ List.mem_cons_self)) nm_n), (nm_c (fun e => hor666810.elim (fun e2 => hn ((e.trans e2) ▸ (List.mem_cons_of_mem _ List.mem_cons_self))) (fun n => n (e ▸ hb))) nm_n)⟩)
  change G _ _ _ _ _ _ _ (.int o667229 :: _) _ _ _
  refine G_widen (cs' := 1) (sl' := 2 * (n666793 - n666638) + 0 + 0) (by omega) (by omega) ?_
  refine G_pop dr_cJ5_append_c97b9_33 rfl ?_
  refine G_goto 48 dr_cJ5_append_c97b9_34 (by decide +kernel) ?_
  refine G_aload_n 2 dr_cJ5_append_c97b9_48 rfl ?_
  refine G_iload_n 0 dr_cJ5_append_c97b9_49 rfl ?_
  refine Gp_put 3 hm666808 he667236 dr_cJ5_append_c97b9_50 (gk_J4 D I) (Nat.le_of_ble_eq_true rfl) wr_7_64 rfl rfl rfl (Nat.le_of_ble_eq_true rfl) (fun F667238 e667239 n667240 => ?_)
  have he667241 : F667238 q666792 = .inl (I .byte, n666793, .inl f667230) := (n667240 q666792 (rn_ao he667235 he667236)).trans he667235
  have he667242 : F667238 q666632 = .inr (1, [.ref q666792, .int 0, .int p666635, .int z666786]) := e667239
  have hfr667243 : rFr [q666632, q666633] P666630 F666631 F667238 := rFr_put' List.mem_cons_self hfr667237 n667240
  refine G_aload_n 2 dr_cJ5_append_c97b9_53 rfl ?_
  exact G_aretA (FieldType.object "java/lang/AbstractStringBuilder") dr_cJ5_append_c97b9_54 rfl (by first | exact Or.inl ⟨_, rfl⟩ | exact Or.inr ⟨_, rfl⟩) (Or.inr ⟨_, rfl⟩) (Nat.le_of_ble_eq_true rfl) (show 2 * (n666793 - n666638) + 0 + 0 ≤ (4 * n666638 + 64) by omega) ⟨P666800, F667238, z666786, q666792, n666793, f667230, rfl, rfl, hsb666811, hfr667243, he667242, he667241, hm666806, hor666810, (Nat.le_of_ble_eq_true rfl), (by omega), ⟨by omega, by omega⟩, bf667230, (by have qa0 : Int32.toInt 0 = 0 := (by decide); omega), (by have qa0 : Int32.toInt 0 = 0 := (by decide); omega), (by have qa0 : Int32.toInt 0 = 0 := (by decide); omega), (by have qa0 : Int32.toInt 0 = 0 := (by decide); omega), (by have qa0 : Int32.toInt 0 = 0 := (by decide); omega), (fun R c1 => c1 o666783 z666786 n666793 f666794 o667229 f667230 bo666783 ht666785 ez666786 ht666799 bo667229 ht667231)⟩
/- tr_RStringBuilder_append7: a.0...count, a.0.value.#, a.0.value.[] -/
def tr_RStringBuilder_append7 (a1 : Int32) (a0_count : Int32) (a0_value_v : Nat → Int32) (a0_value_n : Nat) (o1 : Int32) (o2 : Nat) (o3 : Nat → Int32) : Prop := ∀ R : (Int32) → (Nat) → (Nat → Int32) → Prop,
  (∀ (x1 : Int32) (x2 : Nat) (x3 : Nat → Int32), gB x1 1 16777216 → tr_RAbstractStringBuilder_append7 a1 a0_count a0_value_v a0_value_n x1 x2 x3 → R x1 x2 x3) →
  R o1 o2 o3
abbrev ky_666629_StringBuilder_append : gKey := (cJ4_append_bf812, 2, "java/lang/StringBuilder", (some (FieldType.object "java/lang/StringBuilder")), [], "append", fun _ _ => True)
def pp_666629_StringBuilder_append (D : va_G) (I : FieldType → ClassId) (P666617 : List Nat) (F666618 : Nat → va_E) (q666619 : Nat) (q666620 : Nat) (p666621 : Int32) (p666622 : Int32) (p666623 : Int32) (f666624 : Nat → Int32) (n666625 : Nat) : Option Value → va_W → Nat → Nat → Prop := fun r w dc ds => ∃ (P667282 : List Nat) (F667283 : Nat → va_E) (o667278 : Int32) (q667279 : Nat) (n667280 : Nat) (f667281 : Nat → Int32), r = some (.ref q666619) ∧ w = va_pl P667282 F667283 ∧ rSub P666617 P667282 ∧ rFr [q666619, q666620] P666617 F666618 F667283 ∧ F667283 q666619 = .inr (1, [.ref q667279, .int 0, .int p666622, .int o667278]) ∧ F667283 q667279 = .inl (I .byte, n667280, .inl f667281) ∧ q667279 ∈ P667282 ∧ (q667279 = q666620 ∨ q667279 ∉ P666617) ∧ dc ≤ 1 ∧ ds ≤ 2 * (n667280 - n666625) ∧ gB o667278 1 16777216 ∧ gF f667281 (-128) 127 ∧ p666623.toInt ≤ o667278.toInt ∧ o667278.toInt ≤ p666623.toInt + 11 ∧ o667278.toInt ≤ (n667280 : Int) ∧ (n666625 : Int) ≤ (n667280 : Int) ∧ ((n667280 : Int) ≤ 2 * (n666625 : Int) + 2 ∨ (n667280 : Int) ≤ p666623.toInt + 11) ∧ tr_RStringBuilder_append7 p666621 p666623 f666624 n666625 o667278 n667280 f667281
set_option maxRecDepth 100000 in
set_option maxHeartbeats 4000000 in
theorem cp_666629_StringBuilder_append (l : Launch) (hl0 : l.stackTraces = false) (D : va_G) (I : FieldType → ClassId) (P666617 : List Nat) (F666618 : Nat → va_E) (q666619 : Nat) (q666620 : Nat) (p666621 : Int32) (p666622 : Int32) (p666623 : Int32) (f666624 : Nat → Int32) (n666625 : Nat) (hmq666619 : q666619 ∈ P666617) (hmq666620 : q666620 ∈ P666617) (heq666619 : F666618 q666619 = .inr (1, [.ref q666620, .int 0, .int p666622, .int p666623])) (heq666620 : F666618 q666620 = .inl (I .byte, n666625, .inl f666624)) (bp666622 : gB p666622 0 1) (bp666623 : gB p666623 0 16777216) (bf666624 : gF f666624 (-128) 127) (x666626 : (n666625 : Int) ≤ 8388608 - 100000) (x666627 : p666623.toInt ≤ (n666625 : Int)) (x666628 : ((n666625 : Int) ≤ 16777216)) : CtA (gV D I) l yJ4_append_bf812 cJ4_append_bf812 2 (some (FieldType.object "java/lang/StringBuilder")) 5 107 1 (4 * n666625 + 64) [.ref q666619, .int p666621] (va_pl P666617 F666618) (pp_666629_StringBuilder_append D I P666617 F666618 q666619 q666620 p666621 p666622 p666623 f666624 n666625) gNA := by
  refine CtA_ofF hl0 (by decide +kernel) (Nat.le_of_ble_eq_true rfl) ?_
  have bp666621 := gB_any p666621
  refine G_aload_n 0 dr_cJ4_append_bf812_0 rfl ?_
  refine G_iload_n 1 dr_cJ4_append_bf812_1 rfl ?_
  refine Gw_callSU (As := [.int p666621]) (gV_ok D I) (cp_666642_AbstractStringBuilder_append l hl0 D I P666617 F666618 q666619 q666620 p666621 p666622 p666623 f666624 n666625 hmq666619 hmq666620 heq666619 heq666620 bp666622 bp666623 bf666624 (by have qa0 : Int32.toInt 0 = 0 := (by decide); omega) (by have qa0 : Int32.toInt 0 = 0 := (by decide); omega) (by have qa0 : Int32.toInt 0 = 0 := (by decide); omega)) dr_cJ4_append_bf812_2 ⟨wr_8_109, wr_1_19, wr_8_111, by decide, rfl, (Nat.le_of_ble_eq_true rfl), (Nat.le_of_ble_eq_true rfl)⟩ wr_8_110 wr_11_228 wr_7_73 wr_7_44 (by decide) hmq666619 heq666619 rfl (show 0 + 1 ≤ 1 by first | omega | decide) (show 0 + (4 * n666625 + 64) ≤ (4 * n666625 + 64) by first | omega | decide) (Nat.le_of_ble_eq_true rfl) (fun r667253 w667254 dc667250 ds667251 hp667252 => ?_)
  obtain ⟨P667265, F667266, o667255, q667256, n667257, f667258, rfl, rfl, hsb667267, hfr667268, he667269, he667270, hm667271, hq667272, hdc, hds, bo667255, bf667258, x667259, x667260, x667261, x667262, x667263, ht667264⟩ := hp667252
  have hm667273 : q666619 ∈ P667265 := hsb667267 q666619 hmq666619
  have hm667274 : q666620 ∈ P667265 := hsb667267 q666620 hmq666620
  have hor667275 : q667256 = q666620 ∨ q667256 ∉ P666617 := hq667272.elim Or.inl (fun n => Or.inr (fun z => n ((rSub_rf (P := P666617)) _ z)))
  have hsb667276 : rSub P666617 P667265 := rSub_tr (rSub_rf (P := P666617)) hsb667267
  have hfr667277 : rFr [q666619, q666620] P666617 F666618 F667266 := rFr_call (rSub_rf (P := P666617)) (rFr_rf (W := []) (P := P666617) (F := F666618)) hfr667268 (fun b hb hn => ⟨nm_n, (nm_c (fun e => hn (e ▸ List.mem_cons_self)) (nm_c (fun e => hn (e ▸ (List.mem_cons_of_mem _ List.mem_cons_self))) nm_n))⟩)
  change G _ _ _ _ _ _ _ (.ref q666619 :: _) _ _ _
  refine G_widen (cs' := 1) (sl' := 2 * (n667257 - n666625)) (by omega) (by omega) ?_
  refine G_pop dr_cJ4_append_bf812_5 rfl ?_
  refine G_aload_n 0 dr_cJ4_append_bf812_6 rfl ?_
  exact G_aretA (FieldType.object "java/lang/StringBuilder") dr_cJ4_append_bf812_7 rfl (by first | exact Or.inl ⟨_, rfl⟩ | exact Or.inr ⟨_, rfl⟩) (Or.inr ⟨_, rfl⟩) (Nat.le_of_ble_eq_true rfl) (show 2 * (n667257 - n666625) ≤ (4 * n666625 + 64) by omega) ⟨P667265, F667266, o667255, q667256, n667257, f667258, rfl, rfl, hsb667276, hfr667277, he667269, he667270, hm667271, hor667275, (Nat.le_of_ble_eq_true rfl), (by omega), bo667255, bf667258, (by have qa0 : Int32.toInt 0 = 0 := (by decide); omega), (by have qa0 : Int32.toInt 0 = 0 := (by decide); omega), (by have qa0 : Int32.toInt 0 = 0 := (by decide); omega), (by have qa0 : Int32.toInt 0 = 0 := (by decide); omega), (by have qa0 : Int32.toInt 0 = 0 := (by decide); omega), (fun R c1 => c1 o667255 n667257 f667258 bo667255 ht667264)⟩
/- tr_RReader_isDigit2: result -/
def tr_RReader_isDigit2 (a0 : Int32) (o1 : Int32) : Prop := ∀ R : (Int32) → Prop,
  (a0.toInt < 48 → R (0 : Int32)) →
  (48 ≤ a0.toInt → 57 < a0.toInt → R (0 : Int32)) →
  (48 ≤ a0.toInt → a0.toInt ≤ 57 → R (1 : Int32)) →
  R o1
abbrev ky_667344_Reader_isDigit : gKey := (cX14_isDigit, 1, "SpillForgeModel$Reader", (some FieldType.boolean), [], "isDigit", fun _ _ => True)
def pp_667344_Reader_isDigit (D : va_G) (I : FieldType → ClassId) (P667341 : List Nat) (F667342 : Nat → va_E) (p667343 : Int32) : Option Value → va_W → Nat → Nat → Prop := fun r w dc ds => ∃ (o667351 : Int32), r = some (.int o667351) ∧ w = va_pl P667341 F667342 ∧ dc ≤ 0 ∧ ds ≤ 0 ∧ gB o667351 0 1 ∧ isP p667343 48 57 o667351 ∧ tr_RReader_isDigit2 p667343 o667351
set_option maxRecDepth 100000 in
set_option maxHeartbeats 4000000 in
theorem cp_667344_Reader_isDigit (l : Launch) (hl0 : l.stackTraces = false) (D : va_G) (I : FieldType → ClassId) (P667341 : List Nat) (F667342 : Nat → va_E) (p667343 : Int32)  : CtA (gV D I) l yX14_isDigit cX14_isDigit 1 (some FieldType.boolean) 0 0 0 0 [.int p667343] (va_pl P667341 F667342) (pp_667344_Reader_isDigit D I P667341 F667342 p667343) gNA := by
  refine CtA_of hl0 (by decide) (Nat.le_of_ble_eq_true rfl) ?_
  have bp667343 := gB_any p667343
  refine G_iload_n 0 dr_cX14_isDigit_0 rfl ?_
  refine G_bipush 48 dr_cX14_isDigit_1 (by decide +kernel) ?_
  refine G_icmp_lt 16 dr_cX14_isDigit_3 (by decide +kernel) (fun hc667345 => ?_) (fun hc667345 => ?_)
  · have r667346 : p667343.toInt < 48 := gj_lt hc667345 (show Int32.toInt 48 = 48 by decide)
    have bp667343' : gB p667343 (-2147483648) 47 := ⟨by omega, by omega⟩
    refine G_iconst 0 dr_cX14_isDigit_16 (by decide +kernel) ?_
    exact G_zretA FieldType.boolean dr_cX14_isDigit_17 rfl rfl (Nat.le_of_ble_eq_true rfl) (Nat.le_of_ble_eq_true rfl) ⟨0, rfl, rfl, (Nat.le_of_ble_eq_true rfl), (Nat.le_of_ble_eq_true rfl), (gB_w (gBl (show Int32.toInt 0 = 0 by decide)) (by decide) (by decide)), (isP_n (by omega)), (fun R c1 c2 c3 => c1 r667346)⟩
  · have r667347 : 48 ≤ p667343.toInt := gj_nlt hc667345 (show Int32.toInt 48 = 48 by decide)
    have bp667343' : gB p667343 48 2147483647 := ⟨by omega, by omega⟩
    refine G_iload_n 0 dr_cX14_isDigit_6 rfl ?_
    refine G_bipush 57 dr_cX14_isDigit_7 (by decide +kernel) ?_
    refine G_icmp_gt 16 dr_cX14_isDigit_9 (by decide +kernel) (fun hc667348 => ?_) (fun hc667348 => ?_)
    · have r667349 : 57 < p667343.toInt := gj_ltL hc667348 (show Int32.toInt 57 = 57 by decide)
      have bp667343'' : gB p667343 58 2147483647 := ⟨by omega, by omega⟩
      refine G_iconst 0 dr_cX14_isDigit_16 (by decide +kernel) ?_
      exact G_zretA FieldType.boolean dr_cX14_isDigit_17 rfl rfl (Nat.le_of_ble_eq_true rfl) (Nat.le_of_ble_eq_true rfl) ⟨0, rfl, rfl, (Nat.le_of_ble_eq_true rfl), (Nat.le_of_ble_eq_true rfl), (gB_w (gBl (show Int32.toInt 0 = 0 by decide)) (by decide) (by decide)), (isP_n (by omega)), (fun R c1 c2 c3 => c2 r667347 r667349)⟩
    · have r667350 : p667343.toInt ≤ 57 := gj_nltL hc667348 (show Int32.toInt 57 = 57 by decide)
      have bp667343'' : gB p667343 48 57 := ⟨by omega, by omega⟩
      refine G_iconst 1 dr_cX14_isDigit_12 (by decide +kernel) ?_
      refine G_goto 17 dr_cX14_isDigit_13 (by decide +kernel) ?_
      exact G_zretA FieldType.boolean dr_cX14_isDigit_17 rfl rfl (Nat.le_of_ble_eq_true rfl) (Nat.le_of_ble_eq_true rfl) ⟨1, rfl, rfl, (Nat.le_of_ble_eq_true rfl), (Nat.le_of_ble_eq_true rfl), (gB_w (gBl (show Int32.toInt 1 = 1 by decide)) (by decide) (by decide)), (isP_y (by omega) (by omega)), (fun R c1 c2 c3 => c3 r667347 r667350)⟩
/- tr_RMath_min: result -/
def tr_RMath_min (a0 : Int64) (a1 : Int64) (o1 : Int64) : Prop := ∀ R : (Int64) → Prop,
  (∀ (x1 : Int32), x1 = lg_cmp a0 a1 → 0 < x1.toInt → R a1) →
  (∀ (x1 : Int32), x1 = lg_cmp a0 a1 → x1.toInt ≤ 0 → R a0) →
  R o1
abbrev ky_667398_Math_min : gKey := (cJ9_min_f86c9, 4, "java/lang/Math", (some FieldType.long), [], "min", fun _ _ => True)
def pp_667398_Math_min (D : va_G) (I : FieldType → ClassId) (P667394 : List Nat) (F667395 : Nat → va_E) (pl667396 : Int64) (pl667397 : Int64) : Option Value → va_W → Nat → Nat → Prop := fun r w dc ds => ∃ (ol667403 : Int64), r = some (.long ol667403) ∧ w = va_pl P667394 F667395 ∧ dc ≤ 0 ∧ ds ≤ 0 ∧ lmP pl667396 pl667397 ol667403 ∧ tr_RMath_min pl667396 pl667397 ol667403
set_option maxRecDepth 100000 in
set_option maxHeartbeats 4000000 in
theorem cp_667398_Math_min (l : Launch) (hl0 : l.stackTraces = false) (D : va_G) (I : FieldType → ClassId) (P667394 : List Nat) (F667395 : Nat → va_E) (pl667396 : Int64) (pl667397 : Int64)  : CtA (gV D I) l yJ9_min_f86c9 cJ9_min_f86c9 4 (some FieldType.long) 0 0 0 0 [.long pl667396, .long pl667397] (va_pl P667394 F667395) (pp_667398_Math_min D I P667394 F667395 pl667396 pl667397) gNA := by
  refine CtA_ofF hl0 (by decide +kernel) (Nat.le_of_ble_eq_true rfl) ?_
  refine G_lload_n 0 dr_cJ9_min_f86c9_0 rfl ?_
  refine G_lload_n 1 dr_cJ9_min_f86c9_1 rfl ?_
  refine G_lcmp dr_cJ9_min_f86c9_2 (G_nam fun z667399 hz667399 => ?_)
  have bz667399 : gB z667399 (-1) 1 := gB_cmp hz667399
  refine G_if_gt 10 dr_cJ9_min_f86c9_3 (by decide +kernel) (fun hc667400 => ?_) (fun hc667400 => ?_)
  · have r667401 : 0 < z667399.toInt := gj_ltL hc667400 (show Int32.toInt 0 = 0 by decide)
    have bz667399' : gB z667399 1 1 := ⟨by omega, by omega⟩
    have lhc667400 := gC_cmpS hz667399 (by omega)
    refine G_lload_n 1 dr_cJ9_min_f86c9_10 rfl ?_
    exact G_lretA dr_cJ9_min_f86c9_11 rfl (Nat.le_of_ble_eq_true rfl) (Nat.le_of_ble_eq_true rfl) ⟨pl667397, rfl, rfl, (Nat.le_of_ble_eq_true rfl), (Nat.le_of_ble_eq_true rfl), (by first | exact lm_r | exact lm_l (by assumption) (by omega)), (fun R c1 c2 => c1 z667399 hz667399 r667401)⟩
  · have r667402 : z667399.toInt ≤ 0 := gj_nltL hc667400 (show Int32.toInt 0 = 0 by decide)
    have bz667399' : gB z667399 (-1) 0 := ⟨by omega, by omega⟩
    refine G_lload_n 0 dr_cJ9_min_f86c9_6 rfl ?_
    refine G_goto 11 dr_cJ9_min_f86c9_7 (by decide +kernel) ?_
    exact G_lretA dr_cJ9_min_f86c9_11 rfl (Nat.le_of_ble_eq_true rfl) (Nat.le_of_ble_eq_true rfl) ⟨pl667396, rfl, rfl, (Nat.le_of_ble_eq_true rfl), (Nat.le_of_ble_eq_true rfl), (by first | exact lm_r | exact lm_l (by assumption) (by omega)), (fun R c1 c2 => c2 z667399 hz667399 r667402)⟩
/- tl_RReader_number_16: l2, a0_at; out: l2, a0_at -/
def tl_RReader_number_16 (a0_n : Int32) (a0_t_v : Nat → Int32) (s1 : Int64) (s2 : Int32) (k : Nat) (e1 : Int64) (e2 : Int32) : Prop := ∀ R : (Int64) → (Int32) → Nat → (Int64) → (Int32) → Prop,
  (∀ (l2_1 : Int64) (a0_at_1 : Int32), gB a0_at_1 0 8192 → a0_n.toInt ≤ a0_at_1.toInt → R l2_1 a0_at_1 82 l2_1 a0_at_1) →
  (∀ (l2_1 : Int64) (a0_at_1 : Int32) (x1 : Int32) (x2 : Int32), gB a0_at_1 0 8192 → a0_at_1.toInt < a0_n.toInt → x1 = a0_t_v a0_at_1.toNatClampNeg → gB x1 (-128) 127 → gB x2 0 1 → tr_RReader_isDigit2 x1 x2 → x2.toInt = 0 → R l2_1 a0_at_1 82 l2_1 a0_at_1) →
  (∀ (l2_1 : Int64) (a0_at_1 : Int32) (x1 : Int32) (x2 : Int32) (x3 : Int64) (x4 : Int64) (x5 : Int64) (x6 : Int64) (x7 : Int64) (x8 : Int32) (k : Nat) (e1 : Int64) (e2 : Int32), gB a0_at_1 0 8192 → a0_at_1.toInt < a0_n.toInt → x1 = a0_t_v a0_at_1.toNatClampNeg → gB x1 (-128) 127 → gB x2 0 1 → tr_RReader_isDigit2 x1 x2 → x2.toInt ≠ 0 → x3 = l2_1 * (10 : Int64) → x4 = x1.toInt64 → x5 = x3 + x4 → x6 = x5 - (48 : Int64) → tr_RMath_min x6 (1099511627776 : Int64) x7 → x8.toInt = a0_at_1.toInt + 1 → R x7 x8 k e1 e2 → R l2_1 a0_at_1 k e1 e2) →
  R s1 s2 k e1 e2
/- tl_RReader_number_16_2: l2, a0_at; out: l2, a0_at -/
def tl_RReader_number_16_2 (a0_n : Int32) (a0_t_v : Nat → Int32) (s1 : Int64) (s2 : Int32) (k : Nat) (e1 : Int64) (e2 : Int32) : Prop := ∀ R : (Int64) → (Int32) → Nat → (Int64) → (Int32) → Prop,
  (∀ (l2_1 : Int64) (a0_at_1 : Int32), gB a0_at_1 0 8192 → a0_n.toInt ≤ a0_at_1.toInt → R l2_1 a0_at_1 82 l2_1 a0_at_1) →
  (∀ (l2_1 : Int64) (a0_at_1 : Int32) (x1 : Int32) (x2 : Int32), gB a0_at_1 0 8192 → a0_at_1.toInt < a0_n.toInt → x1 = a0_t_v a0_at_1.toNatClampNeg → gB x1 (-128) 127 → gB x2 0 1 → tr_RReader_isDigit2 x1 x2 → x2.toInt = 0 → R l2_1 a0_at_1 82 l2_1 a0_at_1) →
  (∀ (l2_1 : Int64) (a0_at_1 : Int32) (x1 : Int32) (x2 : Int32) (x3 : Int64) (x4 : Int64) (x5 : Int64) (x6 : Int64) (x7 : Int64) (x8 : Int32) (k : Nat) (e1 : Int64) (e2 : Int32), gB a0_at_1 0 8192 → a0_at_1.toInt < a0_n.toInt → x1 = a0_t_v a0_at_1.toNatClampNeg → gB x1 (-128) 127 → gB x2 0 1 → tr_RReader_isDigit2 x1 x2 → x2.toInt ≠ 0 → x3 = l2_1 * (10 : Int64) → x4 = x1.toInt64 → x5 = x3 + x4 → x6 = x5 - (48 : Int64) → tr_RMath_min x6 (1099511627776 : Int64) x7 → x8.toInt = a0_at_1.toInt + 1 → R x7 x8 k e1 e2 → R l2_1 a0_at_1 k e1 e2) →
  R s1 s2 k e1 e2
/- tr_RReader_number: a.0...at, a.0...kind, a.0...value -/
def tr_RReader_number (a1 : Int32) (a0_n : Int32) (a0_at : Int32) (a0_t_v : Nat → Int32) (o1 : Int32) (o2 : Int32) (o3 : Int32) (o4 : gTx) : Prop := ∀ R : (Int32) → (Int32) → (Int32) → (gTx) → Prop,
  (∀ (x1 : Int64) (x2 : Int32) (x3 : Int32) (x4 : Int32) (x5 : Int64), a1.toInt = 0 → tl_RReader_number_16 a0_n a0_t_v (0 : Int64) a0_at 82 x1 x2 → x3 = x1.toInt32 → x4 = x1.toInt32 → x5 = x4.toInt64 → (¬ x1 = x5) → R x2 (6 : Int32) x3 (0, fun _ => 0)) →
  (∀ (x1 : Int64) (x2 : Int32) (x3 : Int32) (x4 : Int32) (x5 : Int64), a1.toInt = 0 → tl_RReader_number_16 a0_n a0_t_v (0 : Int64) a0_at 82 x1 x2 → x3 = x1.toInt32 → x4 = x1.toInt32 → x5 = x4.toInt64 → x1 = x5 → R x2 (4 : Int32) x3 (0, fun _ => 0)) →
  (∀ (x1 : Int32) (x2 : Int64) (x3 : Int32) (x4 : Int64) (x5 : Int32) (x6 : Int32) (x7 : Int64), a1.toInt ≠ 0 → x1.toInt = a0_at.toInt + 1 → tl_RReader_number_16_2 a0_n a0_t_v (0 : Int64) x1 82 x2 x3 → x4 = -x2 → x5 = x4.toInt32 → x6 = x4.toInt32 → x7 = x6.toInt64 → (¬ x4 = x7) → R x3 (6 : Int32) x5 (0, fun _ => 0)) →
  (∀ (x1 : Int32) (x2 : Int64) (x3 : Int32) (x4 : Int64) (x5 : Int32) (x6 : Int32) (x7 : Int64), a1.toInt ≠ 0 → x1.toInt = a0_at.toInt + 1 → tl_RReader_number_16_2 a0_n a0_t_v (0 : Int64) x1 82 x2 x3 → x4 = -x2 → x5 = x4.toInt32 → x6 = x4.toInt32 → x7 = x6.toInt64 → x4 = x7 → R x3 (4 : Int32) x5 (0, fun _ => 0)) →
  R o1 o2 o3 o4
