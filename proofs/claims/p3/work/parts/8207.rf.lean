theorem dr_cJ5_append_c97b9_0 : decode cJ5_append_c97b9 0 = .ok (.aload_n 0, 1) := by decide +kernel
theorem dr_cJ5_append_c97b9_1 : decode cJ5_append_c97b9 1 = .ok (.getfield 79, 3) := by decide +kernel
theorem dr_cJ5_append_c97b9_4 : decode cJ5_append_c97b9 4 = .ok (.istore_n 2, 1) := by decide +kernel
theorem dr_cJ5_append_c97b9_5 : decode cJ5_append_c97b9 5 = .ok (.iload_n 2, 1) := by decide +kernel
theorem dr_cJ5_append_c97b9_6 : decode cJ5_append_c97b9 6 = .ok (.iload_n 1, 1) := by decide +kernel
theorem dr_cJ5_append_c97b9_7 : decode cJ5_append_c97b9 7 = .ok (.invokestatic 245, 3) := by decide +kernel
theorem wr_8_112 : (Jvm.Cond.methodLink "java/lang/AbstractStringBuilder" (245 : Nat) ({ cls := "java/lang/Integer", name := "stringSize", desc := "(I)I" } : Jvm.MethodName)) ∈ gw := gw_8 112 rfl rfl
theorem wr_8_114 : (Jvm.Cond.code ({ cls := "java/lang/Integer", name := "stringSize", desc := "(I)I" } : Jvm.MethodName) prog_29_method_13_code (4 : Nat) (Option.some Jvm.ClassFile.FieldType.int)) ∈ gw := gw_8 114 rfl rfl
theorem wr_8_113 : (Jvm.Cond.static ({ cls := "java/lang/Integer", name := "stringSize", desc := "(I)I" } : Jvm.MethodName)) ∈ gw := gw_8 113 rfl rfl
theorem dr_cJ5_append_c97b9_10 : decode cJ5_append_c97b9 10 = .ok (.iadd, 1) := by decide +kernel
theorem dr_cJ5_append_c97b9_11 : decode cJ5_append_c97b9 11 = .ok (.istore_n 3, 1) := by decide +kernel
theorem dr_cJ5_append_c97b9_12 : decode cJ5_append_c97b9 12 = .ok (.aload_n 0, 1) := by decide +kernel
theorem dr_cJ5_append_c97b9_13 : decode cJ5_append_c97b9 13 = .ok (.iload_n 3, 1) := by decide +kernel
theorem dr_cJ5_append_c97b9_14 : decode cJ5_append_c97b9 14 = .ok (.invokevirtual 100, 3) := by decide +kernel
theorem dr_cJ5_append_c97b9_17 : decode cJ5_append_c97b9 17 = .ok (.aload_n 0, 1) := by decide +kernel
theorem dr_cJ5_append_c97b9_18 : decode cJ5_append_c97b9 18 = .ok (.invokevirtual 83, 3) := by decide +kernel
theorem dr_cJ5_append_c97b9_21 : decode cJ5_append_c97b9 21 = .ok (.ifCond .eq 16, 3) := by decide +kernel
theorem dr_cJ5_append_c97b9_24 : decode cJ5_append_c97b9 24 = .ok (.iload_n 1, 1) := by decide +kernel
theorem dr_cJ5_append_c97b9_25 : decode cJ5_append_c97b9 25 = .ok (.iload_n 3, 1) := by decide +kernel
theorem dr_cJ5_append_c97b9_26 : decode cJ5_append_c97b9 26 = .ok (.aload_n 0, 1) := by decide +kernel
theorem dr_cJ5_append_c97b9_27 : decode cJ5_append_c97b9 27 = .ok (.getfield 15, 3) := by decide +kernel
theorem dr_cJ5_append_c97b9_30 : decode cJ5_append_c97b9 30 = .ok (.invokestatic 248, 3) := by decide +kernel
theorem wr_8_115 : (Jvm.Cond.methodLink "java/lang/AbstractStringBuilder" (248 : Nat) ({ cls := "java/lang/Integer", name := "getChars", desc := "(II[B)I" } : Jvm.MethodName)) ∈ gw := gw_8 115 rfl rfl
theorem wr_8_117 : (Jvm.Cond.code ({ cls := "java/lang/Integer", name := "getChars", desc := "(II[B)I" } : Jvm.MethodName) prog_29_method_12_code (7 : Nat) (Option.some Jvm.ClassFile.FieldType.int)) ∈ gw := gw_8 117 rfl rfl
theorem wr_8_116 : (Jvm.Cond.static ({ cls := "java/lang/Integer", name := "getChars", desc := "(II[B)I" } : Jvm.MethodName)) ∈ gw := gw_8 116 rfl rfl
theorem dr_cJ5_append_c97b9_33 : decode cJ5_append_c97b9 33 = .ok (.pop, 1) := by decide +kernel
theorem dr_cJ5_append_c97b9_34 : decode cJ5_append_c97b9 34 = .ok (.goto 14, 3) := by decide +kernel
theorem dr_cJ5_append_c97b9_48 : decode cJ5_append_c97b9 48 = .ok (.aload_n 0, 1) := by decide +kernel
theorem dr_cJ5_append_c97b9_49 : decode cJ5_append_c97b9 49 = .ok (.iload_n 3, 1) := by decide +kernel
theorem dr_cJ5_append_c97b9_50 : decode cJ5_append_c97b9 50 = .ok (.putfield 79, 3) := by decide +kernel
theorem dr_cJ5_append_c97b9_53 : decode cJ5_append_c97b9 53 = .ok (.aload_n 0, 1) := by decide +kernel
theorem dr_cJ5_append_c97b9_54 : decode cJ5_append_c97b9 54 = .ok (.areturn, 1) := by decide +kernel
theorem dr_cJ4_append_bf812_0 : decode cJ4_append_bf812 0 = .ok (.aload_n 0, 1) := by decide +kernel
theorem dr_cJ4_append_bf812_1 : decode cJ4_append_bf812 1 = .ok (.iload_n 1, 1) := by decide +kernel
theorem dr_cJ4_append_bf812_2 : decode cJ4_append_bf812 2 = .ok (.invokespecial 53, 3) := by decide +kernel
theorem wr_8_109 : (Jvm.Cond.methodLink "java/lang/StringBuilder" (53 : Nat) ({ cls := "java/lang/AbstractStringBuilder", name := "append", desc := "(I)Ljava/lang/AbstractStringBuilder;" } : Jvm.MethodName)) ∈ gw := gw_8 109 rfl rfl
theorem wr_8_111 : (Jvm.Cond.code ({ cls := "java/lang/AbstractStringBuilder", name := "append", desc := "(I)Ljava/lang/AbstractStringBuilder;" } : Jvm.MethodName) prog_21_method_32_code (4 : Nat) (Option.some (Jvm.ClassFile.FieldType.object "java/lang/AbstractStringBuilder"))) ∈ gw := gw_8 111 rfl rfl
theorem wr_8_110 : (Jvm.Cond.instanceMethod ({ cls := "java/lang/AbstractStringBuilder", name := "append", desc := "(I)Ljava/lang/AbstractStringBuilder;" } : Jvm.MethodName)) ∈ gw := gw_8 110 rfl rfl
theorem wr_11_228 : (Jvm.Cond.sameMethod "java/lang/AbstractStringBuilder" "java/lang/AbstractStringBuilder" "append" "(I)Ljava/lang/AbstractStringBuilder;") ∈ gw := gw_11 228 rfl rfl
theorem dr_cJ4_append_bf812_5 : decode cJ4_append_bf812 5 = .ok (.pop, 1) := by decide +kernel
theorem dr_cJ4_append_bf812_6 : decode cJ4_append_bf812 6 = .ok (.aload_n 0, 1) := by decide +kernel
theorem dr_cJ4_append_bf812_7 : decode cJ4_append_bf812 7 = .ok (.areturn, 1) := by decide +kernel
theorem dr_cJ9_min_f86c9_0 : decode cJ9_min_f86c9 0 = .ok (.lload_n 0, 1) := by decide +kernel
theorem dr_cJ9_min_f86c9_1 : decode cJ9_min_f86c9 1 = .ok (.lload_n 2, 1) := by decide +kernel
theorem dr_cJ9_min_f86c9_2 : decode cJ9_min_f86c9 2 = .ok (.lcmp, 1) := by decide +kernel
theorem dr_cJ9_min_f86c9_3 : decode cJ9_min_f86c9 3 = .ok (.ifCond .gt 7, 3) := by decide +kernel
theorem dr_cJ9_min_f86c9_10 : decode cJ9_min_f86c9 10 = .ok (.lload_n 2, 1) := by decide +kernel
theorem dr_cJ9_min_f86c9_11 : decode cJ9_min_f86c9 11 = .ok (.lreturn, 1) := by decide +kernel
theorem dr_cJ9_min_f86c9_6 : decode cJ9_min_f86c9 6 = .ok (.lload_n 0, 1) := by decide +kernel
theorem dr_cJ9_min_f86c9_7 : decode cJ9_min_f86c9 7 = .ok (.goto 4, 3) := by decide +kernel
theorem dr_cX14_number_0 : decode cX14_number 0 = .ok (.iload_n 1, 1) := by decide +kernel
theorem dr_cX14_number_1 : decode cX14_number 1 = .ok (.ifCond .eq 13, 3) := by decide +kernel
theorem dr_cX14_number_14 : decode cX14_number 14 = .ok (.lconst 0, 1) := by decide +kernel
theorem dr_cX14_number_15 : decode cX14_number 15 = .ok (.lstore_n 2, 1) := by decide +kernel
theorem dr_cX14_number_16 : decode cX14_number 16 = .ok (.aload_n 0, 1) := by decide +kernel
theorem dr_cX14_number_17 : decode cX14_number 17 = .ok (.getfield 44, 3) := by decide +kernel
theorem wr_9_38 : (Jvm.Cond.fieldLink "SpillForgeModel$Reader" (44 : Nat) "SpillForgeModel$Reader" "at" "I") ∈ gw := gw_9 38 rfl rfl
theorem dr_cX14_number_20 : decode cX14_number 20 = .ok (.aload_n 0, 1) := by decide +kernel
theorem dr_cX14_number_21 : decode cX14_number 21 = .ok (.getfield 32, 3) := by decide +kernel
theorem wr_9_37 : (Jvm.Cond.fieldLink "SpillForgeModel$Reader" (32 : Nat) "SpillForgeModel$Reader" "n" "I") ∈ gw := gw_9 37 rfl rfl
theorem dr_cX14_number_24 : decode cX14_number 24 = .ok (.if_icmp .ge 58, 3) := by decide +kernel
theorem dr_cX14_number_82 : decode cX14_number 82 = .ok (.iload_n 1, 1) := by decide +kernel
theorem dr_cX14_number_83 : decode cX14_number 83 = .ok (.ifCond .eq 6, 3) := by decide +kernel
theorem dr_cX14_number_89 : decode cX14_number 89 = .ok (.aload_n 0, 1) := by decide +kernel
theorem dr_cX14_number_90 : decode cX14_number 90 = .ok (.lload_n 2, 1) := by decide +kernel
theorem dr_cX14_number_91 : decode cX14_number 91 = .ok (.l2i, 1) := by decide +kernel
theorem dr_cX14_number_92 : decode cX14_number 92 = .ok (.putfield 80, 3) := by decide +kernel
theorem wr_9_41 : (Jvm.Cond.fieldLink "SpillForgeModel$Reader" (80 : Nat) "SpillForgeModel$Reader" "value" "I") ∈ gw := gw_9 41 rfl rfl
theorem dr_cX14_number_95 : decode cX14_number 95 = .ok (.aload_n 0, 1) := by decide +kernel
theorem dr_cX14_number_96 : decode cX14_number 96 = .ok (.lload_n 2, 1) := by decide +kernel
theorem dr_cX14_number_97 : decode cX14_number 97 = .ok (.lload_n 2, 1) := by decide +kernel
theorem dr_cX14_number_98 : decode cX14_number 98 = .ok (.l2i, 1) := by decide +kernel
theorem dr_cX14_number_99 : decode cX14_number 99 = .ok (.i2l, 1) := by decide +kernel
theorem dr_cX14_number_100 : decode cX14_number 100 = .ok (.lcmp, 1) := by decide +kernel
theorem dr_cX14_number_101 : decode cX14_number 101 = .ok (.ifCond .ne 7, 3) := by decide +kernel
theorem dr_cX14_number_108 : decode cX14_number 108 = .ok (.bipush 6, 2) := by decide +kernel
theorem dr_cX14_number_110 : decode cX14_number 110 = .ok (.putfield 38, 3) := by decide +kernel
theorem wr_9_39 : (Jvm.Cond.fieldLink "SpillForgeModel$Reader" (38 : Nat) "SpillForgeModel$Reader" "kind" "I") ∈ gw := gw_9 39 rfl rfl
theorem dr_cX14_number_113 : decode cX14_number 113 = .ok (.return_, 1) := by decide +kernel
theorem dr_cX14_number_104 : decode cX14_number 104 = .ok (.iconst 4, 1) := by decide +kernel
theorem dr_cX14_number_105 : decode cX14_number 105 = .ok (.goto 5, 3) := by decide +kernel
theorem dr_cX14_number_27 : decode cX14_number 27 = .ok (.aload_n 0, 1) := by decide +kernel
theorem dr_cX14_number_28 : decode cX14_number 28 = .ok (.getfield 28, 3) := by decide +kernel
theorem wr_9_36 : (Jvm.Cond.fieldLink "SpillForgeModel$Reader" (28 : Nat) "SpillForgeModel$Reader" "t" "[B") ∈ gw := gw_9 36 rfl rfl
theorem dr_cX14_number_31 : decode cX14_number 31 = .ok (.aload_n 0, 1) := by decide +kernel
theorem dr_cX14_number_32 : decode cX14_number 32 = .ok (.getfield 44, 3) := by decide +kernel
theorem dr_cX14_number_35 : decode cX14_number 35 = .ok (.baload, 1) := by decide +kernel
theorem dr_cX14_number_36 : decode cX14_number 36 = .ok (.invokestatic 50, 3) := by decide +kernel
theorem wr_7_219 : (Jvm.Cond.methodLink "SpillForgeModel$Reader" (50 : Nat) ({ cls := "SpillForgeModel$Reader", name := "isDigit", desc := "(I)Z" } : Jvm.MethodName)) ∈ gw := gw_7 219 rfl rfl
theorem wr_1_32 : (Jvm.Cond.initialized "SpillForgeModel$Reader") ∈ gw := gw_1 32 rfl rfl
theorem wr_7_221 : (Jvm.Cond.code ({ cls := "SpillForgeModel$Reader", name := "isDigit", desc := "(I)Z" } : Jvm.MethodName) prog_17_method_2_code (1 : Nat) (Option.some Jvm.ClassFile.FieldType.boolean)) ∈ gw := gw_7 221 rfl rfl
theorem wr_7_220 : (Jvm.Cond.static ({ cls := "SpillForgeModel$Reader", name := "isDigit", desc := "(I)Z" } : Jvm.MethodName)) ∈ gw := gw_7 220 rfl rfl
theorem dr_cX14_number_39 : decode cX14_number 39 = .ok (.ifCond .eq 43, 3) := by decide +kernel
theorem dr_cX14_number_42 : decode cX14_number 42 = .ok (.lload_n 2, 1) := by decide +kernel
theorem dr_cX14_number_43 : decode cX14_number 43 = .ok (.ldc2_w 68, 3) := by decide +kernel
theorem wr_7_229 : (Jvm.Cond.constantLong "SpillForgeModel$Reader" (68 : Nat) (10 : Int64)) ∈ gw := gw_7 229 rfl rfl
theorem dr_cX14_number_46 : decode cX14_number 46 = .ok (.lmul, 1) := by decide +kernel
theorem dr_cX14_number_47 : decode cX14_number 47 = .ok (.aload_n 0, 1) := by decide +kernel
theorem dr_cX14_number_48 : decode cX14_number 48 = .ok (.getfield 28, 3) := by decide +kernel
theorem dr_cX14_number_51 : decode cX14_number 51 = .ok (.aload_n 0, 1) := by decide +kernel
theorem dr_cX14_number_52 : decode cX14_number 52 = .ok (.getfield 44, 3) := by decide +kernel
theorem dr_cX14_number_55 : decode cX14_number 55 = .ok (.baload, 1) := by decide +kernel
theorem dr_cX14_number_56 : decode cX14_number 56 = .ok (.i2l, 1) := by decide +kernel
theorem dr_cX14_number_57 : decode cX14_number 57 = .ok (.ladd, 1) := by decide +kernel
theorem dr_cX14_number_58 : decode cX14_number 58 = .ok (.ldc2_w 70, 3) := by decide +kernel
theorem wr_7_230 : (Jvm.Cond.constantLong "SpillForgeModel$Reader" (70 : Nat) (48 : Int64)) ∈ gw := gw_7 230 rfl rfl
theorem dr_cX14_number_61 : decode cX14_number 61 = .ok (.lsub, 1) := by decide +kernel
theorem dr_cX14_number_62 : decode cX14_number 62 = .ok (.ldc2_w 111, 3) := by decide +kernel
theorem wr_8_222 : (Jvm.Cond.constantLong "SpillForgeModel$Reader" (111 : Nat) (1099511627776 : Int64)) ∈ gw := gw_8 222 rfl rfl
theorem dr_cX14_number_65 : decode cX14_number 65 = .ok (.invokestatic 74, 3) := by decide +kernel
theorem wr_7_232 : (Jvm.Cond.methodLink "SpillForgeModel$Reader" (74 : Nat) ({ cls := "java/lang/Math", name := "min", desc := "(JJ)J" } : Jvm.MethodName)) ∈ gw := gw_7 232 rfl rfl
theorem wr_3_40 : (Jvm.Cond.code ({ cls := "java/lang/Math", name := "min", desc := "(JJ)J" } : Jvm.MethodName) prog_32_method_70_code (4 : Nat) (Option.some Jvm.ClassFile.FieldType.long)) ∈ gw := gw_3 40 rfl rfl
theorem wr_3_39 : (Jvm.Cond.static ({ cls := "java/lang/Math", name := "min", desc := "(JJ)J" } : Jvm.MethodName)) ∈ gw := gw_3 39 rfl rfl
theorem dr_cX14_number_68 : decode cX14_number 68 = .ok (.lstore_n 2, 1) := by decide +kernel
theorem dr_cX14_number_69 : decode cX14_number 69 = .ok (.aload_n 0, 1) := by decide +kernel
theorem dr_cX14_number_70 : decode cX14_number 70 = .ok (.dup, 1) := by decide +kernel
theorem dr_cX14_number_71 : decode cX14_number 71 = .ok (.getfield 44, 3) := by decide +kernel
theorem dr_cX14_number_74 : decode cX14_number 74 = .ok (.iconst 1, 1) := by decide +kernel
theorem dr_cX14_number_75 : decode cX14_number 75 = .ok (.iadd, 1) := by decide +kernel
theorem dr_cX14_number_76 : decode cX14_number 76 = .ok (.putfield 44, 3) := by decide +kernel
theorem dr_cX14_number_79 : decode cX14_number 79 = .ok (.goto (-63), 3) := by decide +kernel
theorem dr_cX14_number_4 : decode cX14_number 4 = .ok (.aload_n 0, 1) := by decide +kernel
theorem dr_cX14_number_5 : decode cX14_number 5 = .ok (.dup, 1) := by decide +kernel
theorem dr_cX14_number_6 : decode cX14_number 6 = .ok (.getfield 44, 3) := by decide +kernel
theorem dr_cX14_number_9 : decode cX14_number 9 = .ok (.iconst 1, 1) := by decide +kernel
theorem dr_cX14_number_10 : decode cX14_number 10 = .ok (.iadd, 1) := by decide +kernel
theorem dr_cX14_number_11 : decode cX14_number 11 = .ok (.putfield 44, 3) := by decide +kernel
theorem dr_cX14_number_86 : decode cX14_number 86 = .ok (.lload_n 2, 1) := by decide +kernel
theorem dr_cX14_number_87 : decode cX14_number 87 = .ok (.lneg, 1) := by decide +kernel
theorem dr_cX14_number_88 : decode cX14_number 88 = .ok (.lstore_n 2, 1) := by decide +kernel
abbrev ky_648929_AbstractStringBuilder_append : gKey := (cJ5_append_c97b9, 4, "java/lang/AbstractStringBuilder", (some (FieldType.object "java/lang/AbstractStringBuilder")), [], "append", fun _ _ => True)
def pp_648929_AbstractStringBuilder_append (D : va_G) (I : FieldType → ClassId) (P648917 : List Nat) (F648918 : Nat → va_E) (q648919 : Nat) (q648920 : Nat) (p648921 : Int32) (p648922 : Int32) (p648923 : Int32) (f648924 : Nat → Int32) (n648925 : Nat) : Option Value → va_W → Nat → Nat → Prop := fun r w dc ds => ∃ (P649526 : List Nat) (F649527 : Nat → va_E) (o649522 : Int32) (q649523 : Nat) (n649524 : Nat) (f649525 : Nat → Int32), r = some (.ref q648919) ∧ w = va_pl P649526 F649527 ∧ rSub P648917 P649526 ∧ rFr [q648919, q648920] P648917 F648918 F649527 ∧ F649527 q648919 = .inr (1, [.ref q649523, .int 0, .int p648922, .int o649522]) ∧ F649527 q649523 = .inl (I .byte, n649524, .inl f649525) ∧ q649523 ∈ P649526 ∧ (q649523 = q648920 ∨ q649523 ∉ P648917) ∧ dc ≤ 1 ∧ ds ≤ 2 * (n649524 - n648925) ∧ gB o649522 1 16777216 ∧ gF f649525 (-128) 127 ∧ p648923.toInt ≤ o649522.toInt ∧ o649522.toInt ≤ p648923.toInt + 11 ∧ o649522.toInt ≤ (n649524 : Int) ∧ (n648925 : Int) ≤ (n649524 : Int) ∧ ((n649524 : Int) ≤ 2 * (n648925 : Int) + 2 ∨ (n649524 : Int) ≤ p648923.toInt + 11)
set_option maxRecDepth 100000 in
set_option maxHeartbeats 4000000 in
theorem cp_648929_AbstractStringBuilder_append (l : Launch) (hl0 : l.stackTraces = false) (D : va_G) (I : FieldType → ClassId) (P648917 : List Nat) (F648918 : Nat → va_E) (q648919 : Nat) (q648920 : Nat) (p648921 : Int32) (p648922 : Int32) (p648923 : Int32) (f648924 : Nat → Int32) (n648925 : Nat) (hmq648919 : q648919 ∈ P648917) (hmq648920 : q648920 ∈ P648917) (heq648919 : F648918 q648919 = .inr (1, [.ref q648920, .int 0, .int p648922, .int p648923])) (heq648920 : F648918 q648920 = .inl (I .byte, n648925, .inl f648924)) (bp648922 : gB p648922 0 1) (bp648923 : gB p648923 0 16777216) (bf648924 : gF f648924 (-128) 127) (x648926 : (n648925 : Int) ≤ 8388608 - 100000) (x648927 : p648923.toInt ≤ (n648925 : Int)) (x648928 : ((n648925 : Int) ≤ 16777216)) : CtA (gV D I) l yJ5_append_c97b9 cJ5_append_c97b9 4 (some (FieldType.object "java/lang/AbstractStringBuilder")) 4 84 1 (4 * n648925 + 64) [.ref q648919, .int p648921] (va_pl P648917 F648918) (pp_648929_AbstractStringBuilder_append D I P648917 F648918 q648919 q648920 p648921 p648922 p648923 f648924 n648925) gNA := by
  refine CtA_ofF hl0 (by decide +kernel) (Nat.le_of_ble_eq_true rfl) ?_
  have bp648921 := gB_any p648921
  refine G_aload_n 0 dr_cJ5_append_c97b9_0 rfl ?_
  refine Gp_get 3 hmq648919 heq648919 dr_cJ5_append_c97b9_1 (gk_J4 D I) (Nat.le_of_ble_eq_true rfl) wr_7_64 rfl ?_
  refine G_istore_n (L' := [(2, .int p648923), (0, .ref q648919), (1, .int p648921)]) dr_cJ5_append_c97b9_4 (Nat.le_of_ble_eq_true rfl) rfl ?_
  refine G_iload_n 0 dr_cJ5_append_c97b9_5 rfl ?_
  refine G_iload_n 2 dr_cJ5_append_c97b9_6 rfl ?_
  refine Gw_callS (As := [.int p648921]) (gV_ok D I) (cp_648933_Integer_stringSize l hl0 D I P648917 F648918 p648921 ) dr_cJ5_append_c97b9_7 ⟨wr_8_112, wr_1_35, wr_8_114, by decide, rfl, (Nat.le_of_ble_eq_true rfl), (Nat.le_of_ble_eq_true rfl)⟩ wr_8_113 (show 0 + 0 ≤ 1 by first | omega | decide) (show 0 + 0 ≤ (4 * n648925 + 64) by first | omega | decide) (Nat.le_of_ble_eq_true rfl) (fun r649064 w649065 dc649061 ds649062 hp649063 => ?_) (fun _ _ _ _ _ z => z.elim)
  obtain ⟨o649066, rfl, rfl, hdc, hds, bo649066, x649067⟩ := hp649063
  change G _ _ _ _ _ _ _ (.int o649066 :: _) _ _ _
  refine G_widen (cs' := 0) (sl' := 0) (by omega) (by omega) ?_
  refine G_iadd dr_cJ5_append_c97b9_10 (G_nam fun z649068 hz649068 => ?_)
  have ez649068 : z649068.toInt = p648923.toInt + o649066.toInt := by rw [gI_add hz649068 bp648923 bo649066 (by decide) (by decide)]
  have bz649068 : gB z649068 1 16777227 := gB_add (gI_add hz649068 bp648923 bo649066 (by decide) (by decide)) bp648923 bo649066 (by decide) (by decide)
  refine G_istore_n (L' := [(3, .int z649068), (2, .int p648923), (0, .ref q648919), (1, .int p648921)]) dr_cJ5_append_c97b9_11 (Nat.le_of_ble_eq_true rfl) rfl ?_
  refine G_aload_n 2 dr_cJ5_append_c97b9_12 rfl ?_
  refine G_iload_n 0 dr_cJ5_append_c97b9_13 rfl ?_
  refine Gw_callVB (As := [.int z649068]) (gV_ok D I) (cp_640241_AbstractStringBuilder_ensureCapacityInternal l hl0 D I P648917 F648918 q648919 q648920 z649068 p648922 p648923 f648924 n648925 hmq648919 hmq648920 heq648919 heq648920 ⟨by omega, by omega⟩ bp648922 bp648923 bf648924 (by have qa0 : Int32.toInt 0 = 0 := (by decide); omega) (by have qa0 : Int32.toInt 0 = 0 := (by decide); omega)) dr_cJ5_append_c97b9_14 ⟨wr_8_4, wr_1_19, wr_8_7, by decide, rfl, (Nat.le_of_ble_eq_true rfl), (Nat.le_of_ble_eq_true rfl)⟩ wr_8_6 wr_s_0 hmq648919 heq648919 rfl (show 0 + 1 ≤ 1 by first | omega | decide) (show 0 + (2 * n648925 + 2 + z649068.toInt.toNat) ≤ (4 * n648925 + 64) by first | omega | decide) (Nat.le_of_ble_eq_true rfl) (fun r649072 w649073 dc649069 ds649070 hp649071 => ?_) (fun _ _ _ _ _ z => z.elim)
  obtain ⟨P649081, F649082, q649074, n649075, f649076, rfl, rfl, hsb649083, hfr649084, he649085, he649086, hm649087, hq649088, hdc, hds, bf649076, x649077, x649078, x649079, x649080⟩ := hp649071
  have hm649089 : q648919 ∈ P649081 := hsb649083 q648919 hmq648919
  have hm649090 : q648920 ∈ P649081 := hsb649083 q648920 hmq648920
  have hor649091 : q649074 = q648920 ∨ q649074 ∉ P648917 := hq649088.elim Or.inl (fun n => Or.inr (fun z => n ((rSub_rf (P := P648917)) _ z)))
  have hsb649092 : rSub P648917 P649081 := rSub_tr (rSub_rf (P := P648917)) hsb649083
  have he649093 : F649082 q648920 = .inl (I .byte, n648925, .inl f648924) := (hfr649084 q648920 hmq648920 (nm_c (rn_ao heq648920 heq648919) nm_n)).trans heq648920
  have hfr649094 : rFr [q648919] P648917 F648918 F649082 := rFr_call (rSub_rf (P := P648917)) (rFr_rf (W := []) (P := P648917) (F := F648918)) hfr649084 (fun b hb hn => ⟨nm_n, (nm_c (fun e => hn (e ▸ List.mem_cons_self)) nm_n)⟩)
  change G _ _ _ _ _ _ _ _ _ _ _
  refine G_widen (cs' := 1) (sl' := 2 * (n649075 - n648925)) (by omega) (by omega) ?_
  refine G_aload_n 2 dr_cJ5_append_c97b9_17 rfl ?_
  refine Gw_callVB (As := []) (gV_ok D I) (cp_640145_AbstractStringBuilder_isLatin1 l hl0 D I P649081 F649082 q648919 q649074 p648922 p648923 f649076 n649075 hm649089 hm649087 he649085 he649086 bp648922 bp648923 bf649076 (by have qa0 : Int32.toInt 0 = 0 := (by decide); omega)) dr_cJ5_append_c97b9_18 ⟨wr_8_33, wr_1_19, wr_8_37, by decide, rfl, (Nat.le_of_ble_eq_true rfl), (Nat.le_of_ble_eq_true rfl)⟩ wr_8_34 wr_8_36 hm649089 he649085 rfl (show 1 + 0 ≤ 1 by first | omega | decide) (show 2 * (n649075 - n648925) + 0 ≤ (4 * n648925 + 64) by first | omega | decide) (Nat.le_of_ble_eq_true rfl) (fun r649098 w649099 dc649095 ds649096 hp649097 => ?_) (fun _ _ _ _ _ z => z.elim)
  obtain ⟨rfl, rfl, hdc, hds⟩ := hp649097
  change G _ _ _ _ _ _ _ (.int 1 :: _) _ _ _
  refine G_widen (cs' := 1) (sl' := 2 * (n649075 - n648925) + 0) (by omega) (by omega) ?_
  refine G_if_eq 37 dr_cJ5_append_c97b9_21 (by decide +kernel) (fun hc => absurd hc (by decide)) (fun _ => ?_)
  refine G_iload_n 3 dr_cJ5_append_c97b9_24 rfl ?_
  refine G_iload_n 0 dr_cJ5_append_c97b9_25 rfl ?_
  refine G_aload_n 2 dr_cJ5_append_c97b9_26 rfl ?_
  refine Gp_get 0 hm649089 he649085 dr_cJ5_append_c97b9_27 (gk_J4 D I) (Nat.le_of_ble_eq_true rfl) wr_7_60 rfl ?_
  refine Gw_callS (As := [.int p648921, .int z649068, .ref q649074]) (gV_ok D I) (cp_649110_Integer_getChars l hl0 D I P649081 F649082 q649074 p648921 z649068 f649076 n649075 hm649087 he649086 ⟨by omega, by omega⟩ bf649076 (by have qa0 : Int32.toInt 0 = 0 := (by decide); omega) (by have q10 : Int32.toInt 10 = 10 := (by decide); have q11 : Int32.toInt 11 = 11 := (by decide); first | exact dgS_up (by omega) (by omega) x649067 (by omega)) (by have qa0 : Int32.toInt 0 = 0 := (by decide); omega)) dr_cJ5_append_c97b9_30 ⟨wr_8_115, wr_1_35, wr_8_117, by decide, rfl, (Nat.le_of_ble_eq_true rfl), (Nat.le_of_ble_eq_true rfl)⟩ wr_8_116 (show 1 + 0 ≤ 1 by first | omega | decide) (show 2 * (n649075 - n648925) + 0 + 0 ≤ (4 * n648925 + 64) by first | omega | decide) (Nat.le_of_ble_eq_true rfl) (fun r649506 w649507 dc649503 ds649504 hp649505 => ?_) (fun _ _ _ _ _ z => z.elim)
  obtain ⟨F649510, o649508, f649509, rfl, rfl, hfr649512, he649513, hdc, hds, bo649508, bf649509⟩ := hp649505
  have he649514 : F649510 q648919 = .inr (1, [.ref q649074, .int 0, .int p648922, .int p648923]) := (hfr649512 q648919 hm649089 (nm_c (rn_oa he649085 he649086) nm_n)).trans he649085
  have hfr649515 : rFr [q648919, q648920] P648917 F648918 F649510 := rFr_call hsb649092 hfr649094 hfr649512 (fun b hb hn => ⟨(nm_c (fun e => hn (e ▸ List.mem_cons_self)) nm_n), (nm_c (fun e => hor649091.elim (fun e2 => hn ((e.trans e2) ▸ (List.mem_cons_of_mem _ List.mem_cons_self))) (fun n => n (e ▸ hb))) nm_n)⟩)
  change G _ _ _ _ _ _ _ (.int o649508 :: _) _ _ _
  refine G_widen (cs' := 1) (sl' := 2 * (n649075 - n648925) + 0 + 0) (by omega) (by omega) ?_
  refine G_pop dr_cJ5_append_c97b9_33 rfl ?_
  refine G_goto 48 dr_cJ5_append_c97b9_34 (by decide +kernel) ?_
  refine G_aload_n 2 dr_cJ5_append_c97b9_48 rfl ?_
  refine G_iload_n 0 dr_cJ5_append_c97b9_49 rfl ?_
  refine Gp_put 3 hm649089 he649514 dr_cJ5_append_c97b9_50 (gk_J4 D I) (Nat.le_of_ble_eq_true rfl) wr_7_64 rfl rfl rfl (Nat.le_of_ble_eq_true rfl) (fun F649516 e649517 n649518 => ?_)
  have he649519 : F649516 q649074 = .inl (I .byte, n649075, .inl f649509) := (n649518 q649074 (rn_ao he649513 he649514)).trans he649513
  have he649520 : F649516 q648919 = .inr (1, [.ref q649074, .int 0, .int p648922, .int z649068]) := e649517
  have hfr649521 : rFr [q648919, q648920] P648917 F648918 F649516 := rFr_put' List.mem_cons_self hfr649515 n649518
  refine G_aload_n 2 dr_cJ5_append_c97b9_53 rfl ?_
  exact G_aretA (FieldType.object "java/lang/AbstractStringBuilder") dr_cJ5_append_c97b9_54 rfl (by first | exact Or.inl ⟨_, rfl⟩ | exact Or.inr ⟨_, rfl⟩) (Or.inr ⟨_, rfl⟩) (Nat.le_of_ble_eq_true rfl) (show 2 * (n649075 - n648925) + 0 + 0 ≤ (4 * n648925 + 64) by omega) ⟨P649081, F649516, z649068, q649074, n649075, f649509, rfl, rfl, hsb649092, hfr649521, he649520, he649519, hm649087, hor649091, (Nat.le_of_ble_eq_true rfl), (by omega), ⟨by omega, by omega⟩, bf649509, (by have qa0 : Int32.toInt 0 = 0 := (by decide); omega), (by have qa0 : Int32.toInt 0 = 0 := (by decide); omega), (by have qa0 : Int32.toInt 0 = 0 := (by decide); omega), (by have qa0 : Int32.toInt 0 = 0 := (by decide); omega), (by have qa0 : Int32.toInt 0 = 0 := (by decide); omega)⟩
abbrev ky_648916_StringBuilder_append : gKey := (cJ4_append_bf812, 2, "java/lang/StringBuilder", (some (FieldType.object "java/lang/StringBuilder")), [], "append", fun _ _ => True)
def pp_648916_StringBuilder_append (D : va_G) (I : FieldType → ClassId) (P648904 : List Nat) (F648905 : Nat → va_E) (q648906 : Nat) (q648907 : Nat) (p648908 : Int32) (p648909 : Int32) (p648910 : Int32) (f648911 : Nat → Int32) (n648912 : Nat) : Option Value → va_W → Nat → Nat → Prop := fun r w dc ds => ∃ (P649559 : List Nat) (F649560 : Nat → va_E) (o649555 : Int32) (q649556 : Nat) (n649557 : Nat) (f649558 : Nat → Int32), r = some (.ref q648906) ∧ w = va_pl P649559 F649560 ∧ rSub P648904 P649559 ∧ rFr [q648906, q648907] P648904 F648905 F649560 ∧ F649560 q648906 = .inr (1, [.ref q649556, .int 0, .int p648909, .int o649555]) ∧ F649560 q649556 = .inl (I .byte, n649557, .inl f649558) ∧ q649556 ∈ P649559 ∧ (q649556 = q648907 ∨ q649556 ∉ P648904) ∧ dc ≤ 1 ∧ ds ≤ 2 * (n649557 - n648912) ∧ gB o649555 1 16777216 ∧ gF f649558 (-128) 127 ∧ p648910.toInt ≤ o649555.toInt ∧ o649555.toInt ≤ p648910.toInt + 11 ∧ o649555.toInt ≤ (n649557 : Int) ∧ (n648912 : Int) ≤ (n649557 : Int) ∧ ((n649557 : Int) ≤ 2 * (n648912 : Int) + 2 ∨ (n649557 : Int) ≤ p648910.toInt + 11)
set_option maxRecDepth 100000 in
set_option maxHeartbeats 4000000 in
theorem cp_648916_StringBuilder_append (l : Launch) (hl0 : l.stackTraces = false) (D : va_G) (I : FieldType → ClassId) (P648904 : List Nat) (F648905 : Nat → va_E) (q648906 : Nat) (q648907 : Nat) (p648908 : Int32) (p648909 : Int32) (p648910 : Int32) (f648911 : Nat → Int32) (n648912 : Nat) (hmq648906 : q648906 ∈ P648904) (hmq648907 : q648907 ∈ P648904) (heq648906 : F648905 q648906 = .inr (1, [.ref q648907, .int 0, .int p648909, .int p648910])) (heq648907 : F648905 q648907 = .inl (I .byte, n648912, .inl f648911)) (bp648909 : gB p648909 0 1) (bp648910 : gB p648910 0 16777216) (bf648911 : gF f648911 (-128) 127) (x648913 : (n648912 : Int) ≤ 8388608 - 100000) (x648914 : p648910.toInt ≤ (n648912 : Int)) (x648915 : ((n648912 : Int) ≤ 16777216)) : CtA (gV D I) l yJ4_append_bf812 cJ4_append_bf812 2 (some (FieldType.object "java/lang/StringBuilder")) 5 107 1 (4 * n648912 + 64) [.ref q648906, .int p648908] (va_pl P648904 F648905) (pp_648916_StringBuilder_append D I P648904 F648905 q648906 q648907 p648908 p648909 p648910 f648911 n648912) gNA := by
  refine CtA_ofF hl0 (by decide +kernel) (Nat.le_of_ble_eq_true rfl) ?_
  have bp648908 := gB_any p648908
  refine G_aload_n 0 dr_cJ4_append_bf812_0 rfl ?_
  refine G_iload_n 1 dr_cJ4_append_bf812_1 rfl ?_
  refine Gw_callSU (As := [.int p648908]) (gV_ok D I) (cp_648929_AbstractStringBuilder_append l hl0 D I P648904 F648905 q648906 q648907 p648908 p648909 p648910 f648911 n648912 hmq648906 hmq648907 heq648906 heq648907 bp648909 bp648910 bf648911 (by have qa0 : Int32.toInt 0 = 0 := (by decide); omega) (by have qa0 : Int32.toInt 0 = 0 := (by decide); omega) (by have qa0 : Int32.toInt 0 = 0 := (by decide); omega)) dr_cJ4_append_bf812_2 ⟨wr_8_109, wr_1_19, wr_8_111, by decide, rfl, (Nat.le_of_ble_eq_true rfl), (Nat.le_of_ble_eq_true rfl)⟩ wr_8_110 wr_11_228 wr_7_73 wr_7_44 (by decide) hmq648906 heq648906 rfl (show 0 + 1 ≤ 1 by first | omega | decide) (show 0 + (4 * n648912 + 64) ≤ (4 * n648912 + 64) by first | omega | decide) (Nat.le_of_ble_eq_true rfl) (fun r649531 w649532 dc649528 ds649529 hp649530 => ?_)
  obtain ⟨P649542, F649543, o649533, q649534, n649535, f649536, rfl, rfl, hsb649544, hfr649545, he649546, he649547, hm649548, hq649549, hdc, hds, bo649533, bf649536, x649537, x649538, x649539, x649540, x649541⟩ := hp649530
  have hm649550 : q648906 ∈ P649542 := hsb649544 q648906 hmq648906
  have hm649551 : q648907 ∈ P649542 := hsb649544 q648907 hmq648907
  have hor649552 : q649534 = q648907 ∨ q649534 ∉ P648904 := hq649549.elim Or.inl (fun n => Or.inr (fun z => n ((rSub_rf (P := P648904)) _ z)))
  have hsb649553 : rSub P648904 P649542 := rSub_tr (rSub_rf (P := P648904)) hsb649544
  have hfr649554 : rFr [q648906, q648907] P648904 F648905 F649543 := rFr_call (rSub_rf (P := P648904)) (rFr_rf (W := []) (P := P648904) (F := F648905)) hfr649545 (fun b hb hn => ⟨nm_n, (nm_c (fun e => hn (e ▸ List.mem_cons_self)) (nm_c (fun e => hn (e ▸ (List.mem_cons_of_mem _ List.mem_cons_self))) nm_n))⟩)
  change G _ _ _ _ _ _ _ (.ref q648906 :: _) _ _ _
  refine G_widen (cs' := 1) (sl' := 2 * (n649535 - n648912)) (by omega) (by omega) ?_
  refine G_pop dr_cJ4_append_bf812_5 rfl ?_
  refine G_aload_n 0 dr_cJ4_append_bf812_6 rfl ?_
  exact G_aretA (FieldType.object "java/lang/StringBuilder") dr_cJ4_append_bf812_7 rfl (by first | exact Or.inl ⟨_, rfl⟩ | exact Or.inr ⟨_, rfl⟩) (Or.inr ⟨_, rfl⟩) (Nat.le_of_ble_eq_true rfl) (show 2 * (n649535 - n648912) ≤ (4 * n648912 + 64) by omega) ⟨P649542, F649543, o649533, q649534, n649535, f649536, rfl, rfl, hsb649553, hfr649554, he649546, he649547, hm649548, hor649552, (Nat.le_of_ble_eq_true rfl), (by omega), bo649533, bf649536, (by have qa0 : Int32.toInt 0 = 0 := (by decide); omega), (by have qa0 : Int32.toInt 0 = 0 := (by decide); omega), (by have qa0 : Int32.toInt 0 = 0 := (by decide); omega), (by have qa0 : Int32.toInt 0 = 0 := (by decide); omega), (by have qa0 : Int32.toInt 0 = 0 := (by decide); omega)⟩
abbrev ky_649621_Reader_isDigit : gKey := (cX14_isDigit, 1, "SpillForgeModel$Reader", (some FieldType.boolean), [], "isDigit", fun _ _ => True)
def pp_649621_Reader_isDigit (D : va_G) (I : FieldType → ClassId) (P649618 : List Nat) (F649619 : Nat → va_E) (p649620 : Int32) : Option Value → va_W → Nat → Nat → Prop := fun r w dc ds => ∃ (o649628 : Int32), r = some (.int o649628) ∧ w = va_pl P649618 F649619 ∧ dc ≤ 0 ∧ ds ≤ 0 ∧ gB o649628 0 1 ∧ isP p649620 48 57 o649628
set_option maxRecDepth 100000 in
set_option maxHeartbeats 4000000 in
theorem cp_649621_Reader_isDigit (l : Launch) (hl0 : l.stackTraces = false) (D : va_G) (I : FieldType → ClassId) (P649618 : List Nat) (F649619 : Nat → va_E) (p649620 : Int32)  : CtA (gV D I) l yX14_isDigit cX14_isDigit 1 (some FieldType.boolean) 0 0 0 0 [.int p649620] (va_pl P649618 F649619) (pp_649621_Reader_isDigit D I P649618 F649619 p649620) gNA := by
  refine CtA_of hl0 (by decide) (Nat.le_of_ble_eq_true rfl) ?_
  have bp649620 := gB_any p649620
  refine G_iload_n 0 dr_cX14_isDigit_0 rfl ?_
  refine G_bipush 48 dr_cX14_isDigit_1 (by decide +kernel) ?_
  refine G_icmp_lt 16 dr_cX14_isDigit_3 (by decide +kernel) (fun hc649622 => ?_) (fun hc649622 => ?_)
  · have r649623 : p649620.toInt < 48 := gj_lt hc649622 (show Int32.toInt 48 = 48 by decide)
    have bp649620' : gB p649620 (-2147483648) 47 := ⟨by omega, by omega⟩
    refine G_iconst 0 dr_cX14_isDigit_16 (by decide +kernel) ?_
    exact G_zretA FieldType.boolean dr_cX14_isDigit_17 rfl rfl (Nat.le_of_ble_eq_true rfl) (Nat.le_of_ble_eq_true rfl) ⟨0, rfl, rfl, (Nat.le_of_ble_eq_true rfl), (Nat.le_of_ble_eq_true rfl), (gB_w (gBl (show Int32.toInt 0 = 0 by decide)) (by decide) (by decide)), (isP_n (by omega))⟩
  · have r649624 : 48 ≤ p649620.toInt := gj_nlt hc649622 (show Int32.toInt 48 = 48 by decide)
    have bp649620' : gB p649620 48 2147483647 := ⟨by omega, by omega⟩
    refine G_iload_n 0 dr_cX14_isDigit_6 rfl ?_
    refine G_bipush 57 dr_cX14_isDigit_7 (by decide +kernel) ?_
    refine G_icmp_gt 16 dr_cX14_isDigit_9 (by decide +kernel) (fun hc649625 => ?_) (fun hc649625 => ?_)
    · have r649626 : 57 < p649620.toInt := gj_ltL hc649625 (show Int32.toInt 57 = 57 by decide)
      have bp649620'' : gB p649620 58 2147483647 := ⟨by omega, by omega⟩
      refine G_iconst 0 dr_cX14_isDigit_16 (by decide +kernel) ?_
      exact G_zretA FieldType.boolean dr_cX14_isDigit_17 rfl rfl (Nat.le_of_ble_eq_true rfl) (Nat.le_of_ble_eq_true rfl) ⟨0, rfl, rfl, (Nat.le_of_ble_eq_true rfl), (Nat.le_of_ble_eq_true rfl), (gB_w (gBl (show Int32.toInt 0 = 0 by decide)) (by decide) (by decide)), (isP_n (by omega))⟩
    · have r649627 : p649620.toInt ≤ 57 := gj_nltL hc649625 (show Int32.toInt 57 = 57 by decide)
      have bp649620'' : gB p649620 48 57 := ⟨by omega, by omega⟩
      refine G_iconst 1 dr_cX14_isDigit_12 (by decide +kernel) ?_
      refine G_goto 17 dr_cX14_isDigit_13 (by decide +kernel) ?_
      exact G_zretA FieldType.boolean dr_cX14_isDigit_17 rfl rfl (Nat.le_of_ble_eq_true rfl) (Nat.le_of_ble_eq_true rfl) ⟨1, rfl, rfl, (Nat.le_of_ble_eq_true rfl), (Nat.le_of_ble_eq_true rfl), (gB_w (gBl (show Int32.toInt 1 = 1 by decide)) (by decide) (by decide)), (isP_y (by omega) (by omega))⟩
abbrev ky_649674_Math_min : gKey := (cJ9_min_f86c9, 4, "java/lang/Math", (some FieldType.long), [], "min", fun _ _ => True)
def pp_649674_Math_min (D : va_G) (I : FieldType → ClassId) (P649670 : List Nat) (F649671 : Nat → va_E) (pl649672 : Int64) (pl649673 : Int64) : Option Value → va_W → Nat → Nat → Prop := fun r w dc ds => ∃ (ol649679 : Int64), r = some (.long ol649679) ∧ w = va_pl P649670 F649671 ∧ dc ≤ 0 ∧ ds ≤ 0 ∧ lmP pl649672 pl649673 ol649679
set_option maxRecDepth 100000 in
set_option maxHeartbeats 4000000 in
theorem cp_649674_Math_min (l : Launch) (hl0 : l.stackTraces = false) (D : va_G) (I : FieldType → ClassId) (P649670 : List Nat) (F649671 : Nat → va_E) (pl649672 : Int64) (pl649673 : Int64)  : CtA (gV D I) l yJ9_min_f86c9 cJ9_min_f86c9 4 (some FieldType.long) 0 0 0 0 [.long pl649672, .long pl649673] (va_pl P649670 F649671) (pp_649674_Math_min D I P649670 F649671 pl649672 pl649673) gNA := by
  refine CtA_ofF hl0 (by decide +kernel) (Nat.le_of_ble_eq_true rfl) ?_
  refine G_lload_n 0 dr_cJ9_min_f86c9_0 rfl ?_
  refine G_lload_n 1 dr_cJ9_min_f86c9_1 rfl ?_
  refine G_lcmp dr_cJ9_min_f86c9_2 (G_nam fun z649675 hz649675 => ?_)
  have bz649675 : gB z649675 (-1) 1 := gB_cmp hz649675
  refine G_if_gt 10 dr_cJ9_min_f86c9_3 (by decide +kernel) (fun hc649676 => ?_) (fun hc649676 => ?_)
  · have r649677 : 0 < z649675.toInt := gj_ltL hc649676 (show Int32.toInt 0 = 0 by decide)
    have bz649675' : gB z649675 1 1 := ⟨by omega, by omega⟩
    have lhc649676 := gC_cmpS hz649675 (by omega)
    refine G_lload_n 1 dr_cJ9_min_f86c9_10 rfl ?_
    exact G_lretA dr_cJ9_min_f86c9_11 rfl (Nat.le_of_ble_eq_true rfl) (Nat.le_of_ble_eq_true rfl) ⟨pl649673, rfl, rfl, (Nat.le_of_ble_eq_true rfl), (Nat.le_of_ble_eq_true rfl), (by first | exact lm_r | exact lm_l (by assumption) (by omega))⟩
  · have r649678 : z649675.toInt ≤ 0 := gj_nltL hc649676 (show Int32.toInt 0 = 0 by decide)
    have bz649675' : gB z649675 (-1) 0 := ⟨by omega, by omega⟩
    refine G_lload_n 0 dr_cJ9_min_f86c9_6 rfl ?_
    refine G_goto 11 dr_cJ9_min_f86c9_7 (by decide +kernel) ?_
    exact G_lretA dr_cJ9_min_f86c9_11 rfl (Nat.le_of_ble_eq_true rfl) (Nat.le_of_ble_eq_true rfl) ⟨pl649672, rfl, rfl, (Nat.le_of_ble_eq_true rfl), (Nat.le_of_ble_eq_true rfl), (by first | exact lm_r | exact lm_l (by assumption) (by omega))⟩
abbrev ky_649585_Reader_number : gKey := (cX14_number, 4, "SpillForgeModel$Reader", none, [], "number", fun _ _ => True)
def pp_649585_Reader_number (D : va_G) (I : FieldType → ClassId) (P649561 : List Nat) (F649562 : Nat → va_E) (q649563 : Nat) (q649564 : Nat) (p649565 : Int32) (p649566 : Int32) (p649567 : Int32) (p649568 : Int32) (p649569 : Int32) (p649570 : Int32) (p649571 : Int32) (qo649572 : Nat) (p649573 : Int32) (p649574 : Int32) (p649575 : Int32) (qo649576 : Nat) (qo649577 : Nat) (p649578 : Int32) (f649579 : Nat → Int32) : Option Value → va_W → Nat → Nat → Prop := fun r w dc ds => ∃ (F650167 : Nat → va_E) (o650163 : Int32) (o650164 : Int32) (o650165 : Int32), r = none ∧ w = va_pl P649561 F650167 ∧ rFr [q649563] P649561 F649562 F650167 ∧ F650167 q649563 = .inr (19, [.ref q649564, .int p649566, .int o650163, .int o650164, .int p649569, .int o650165, .int p649571, .ref qo649572, .int p649573, .int p649574, .int p649575, .ref qo649576, .ref qo649577, .int p649578]) ∧ F650167 q649564 = .inl (I .byte, 8192, .inl f649579) ∧ dc ≤ (16 * (o650163.toInt - p649567.toInt)).toNat ∧ ds ≤ (160 * (o650163.toInt - p649567.toInt)).toNat ∧ gB o650163 0 8192 ∧ gB o650164 4 6 ∧ p649567.toInt < o650163.toInt ∧ o650163.toInt ≤ p649566.toInt ∧ tP I P649561 F650167 o650164 qo649572 qo649577 qo649576 ∧ vP o650164 o650165
set_option maxRecDepth 100000 in
set_option maxHeartbeats 4000000 in
theorem cp_649585_Reader_number (l : Launch) (hl0 : l.stackTraces = false) (D : va_G) (I : FieldType → ClassId) (P649561 : List Nat) (F649562 : Nat → va_E) (q649563 : Nat) (q649564 : Nat) (p649565 : Int32) (p649566 : Int32) (p649567 : Int32) (p649568 : Int32) (p649569 : Int32) (p649570 : Int32) (p649571 : Int32) (qo649572 : Nat) (p649573 : Int32) (p649574 : Int32) (p649575 : Int32) (qo649576 : Nat) (qo649577 : Nat) (p649578 : Int32) (f649579 : Nat → Int32) (hmq649563 : q649563 ∈ P649561) (hmq649564 : q649564 ∈ P649561) (heq649563 : F649562 q649563 = .inr (19, [.ref q649564, .int p649566, .int p649567, .int p649568, .int p649569, .int p649570, .int p649571, .ref qo649572, .int p649573, .int p649574, .int p649575, .ref qo649576, .ref qo649577, .int p649578])) (heq649564 : F649562 q649564 = .inl (I .byte, 8192, .inl f649579)) (bp649565 : gB p649565 0 1) (bp649566 : gB p649566 0 8192) (bp649567 : gB p649567 0 8192) (bp649568 : gB p649568 0 6) (bp649569 : gB p649569 0 8192) (bp649571 : gB p649571 0 6) (bp649573 : gB p649573 (-1) 8192) (bp649574 : gB p649574 0 4) (bp649575 : gB p649575 0 1000000) (bp649578 : gB p649578 0 1000000) (bf649579 : gF f649579 (-128) 127) (x649580 : p649567.toInt ≤ p649566.toInt) (x649581 : p649567.toInt < p649566.toInt) (x649582 : cDg f649579 p649567 p649565) (x649583 : qo649577 ∈ P649561) (x649584 : qo649576 ∈ P649561) : CtA (gV D I) l yX14_number cX14_number 4 none 1 23 ((16 * (p649566.toInt - p649567.toInt)).toNat) ((160 * (p649566.toInt - p649567.toInt)).toNat) [.ref q649563, .int p649565] (va_pl P649561 F649562) (pp_649585_Reader_number D I P649561 F649562 q649563 q649564 p649565 p649566 p649567 p649568 p649569 p649570 p649571 qo649572 p649573 p649574 p649575 qo649576 qo649577 p649578 f649579) gNA := by
  refine CtA_of hl0 (by decide) (Nat.le_of_ble_eq_true rfl) ?_
  have bp649570 := gB_any p649570
  refine G_iload_n 1 dr_cX14_number_0 rfl ?_
  refine G_if_eq 14 dr_cX14_number_1 (by decide +kernel) (fun hc649586 => ?_) (fun hc649586 => ?_)
  · have r649587 : p649565.toInt = 0 := gj_eq hc649586 (show Int32.toInt 0 = 0 by decide)
    have bp649565' : gB p649565 0 0 := ⟨by omega, by omega⟩
    refine G_lconst 0 dr_cX14_number_14 rfl ?_
    refine G_lstore_n (L' := [(2, .long 0), (0, .ref q649563), (1, .int p649565)]) dr_cX14_number_15 (Nat.le_of_ble_eq_true rfl) rfl ?_
    have hlp16_649793 : ∀ (n16_649793 : Nat) (F649787 : Nat → va_E) (gl649785 : Int64) (g649786 : Int32), gB g649786 0 8192 → rFr [q649563] P649561 F649562 F649787 → F649787 q649563 = .inr (19, [.ref q649564, .int p649566, .int g649786, .int p649568, .int p649569, .int p649570, .int p649571, .ref qo649572, .int p649573, .int p649574, .int p649575, .ref qo649576, .ref qo649577, .int p649578]) → F649787 q649564 = .inl (I .byte, 8192, .inl f649579) → p649567.toInt ≤ g649786.toInt → g649786.toInt ≤ p649566.toInt → (p649565.toInt = 0 ∨ p649567.toInt < g649786.toInt) → ((8193 : Int) - g649786.toInt).toNat < n16_649793 → G (gV D I) l (gRm 1 23 ((16 * (p649566.toInt - p649567.toInt)).toNat) ((160 * (p649566.toInt - p649567.toInt)).toNat)) (gMA (gV D I) (pp_649585_Reader_number D I P649561 F649562 q649563 q649564 p649565 p649566 p649567 p649568 p649569 p649570 p649571 qo649572 p649573 p649574 p649575 qo649576 qo649577 p649578 f649579) gNA ((16 * (p649566.toInt - p649567.toInt)).toNat) ((160 * (p649566.toInt - p649567.toInt)).toNat)) ky_649585_Reader_number 16 [(2, .long gl649785), (0, .ref q649563), (1, .int p649565)] [] (va_pl P649561 F649787) 0 0 := by
      intro n16_649793
      induction n16_649793 with
      | zero => intro F649787 gl649785 g649786 bg649786 hfr649790 he649788 he649789 x649791 x649792 x649793 hm16_649793; exact absurd hm16_649793 (Nat.not_lt_zero _)
      | succ n16_649793 ih16_649793 =>
        intro F649787 gl649785 g649786 bg649786 hfr649790 he649788 he649789 x649791 x649792 x649793 hm16_649793
        refine G_aload_n 1 dr_cX14_number_16 rfl ?_
        refine Gp_get 2 hmq649563 he649788 dr_cX14_number_17 (gk_X14 D I) (Nat.le_of_ble_eq_true rfl) wr_9_38 rfl ?_
        refine G_aload_n 1 dr_cX14_number_20 rfl ?_
        refine Gp_get 1 hmq649563 he649788 dr_cX14_number_21 (gk_X14 D I) (Nat.le_of_ble_eq_true rfl) wr_9_37 rfl ?_
        refine G_icmp_ge 82 dr_cX14_number_24 (by decide +kernel) (fun hc649794 => ?_) (fun hc649794 => ?_)
        · have r649795 : p649566.toInt ≤ g649786.toInt := gC_le hc649794
          have x649796 : p649567.toInt < g649786.toInt := by first | omega | exact cDg_lt x649582 (by omega) (by assumption) (isP_0 (by assumption) (by omega)) (by omega)
          refine G_iload_n 2 dr_cX14_number_82 rfl ?_
          refine G_if_eq 89 dr_cX14_number_83 (by decide +kernel) (fun _ => ?_) (fun hc => absurd (show False by have := gj_neq hc (show Int32.toInt 0 = 0 by decide); omega) not_false)
          refine G_aload_n 1 dr_cX14_number_89 rfl ?_
          refine G_lload_n 0 dr_cX14_number_90 rfl ?_
          refine G_l2i dr_cX14_number_91 (G_nam fun z649797 hz649797 => ?_)
          have bz649797 : gB z649797 (-2147483648) 2147483647 := gB_any z649797
          refine Gp_put 5 hmq649563 he649788 dr_cX14_number_92 (gk_X14 D I) (Nat.le_of_ble_eq_true rfl) wr_9_41 rfl rfl rfl (Nat.le_of_ble_eq_true rfl) (fun F649798 e649799 n649800 => ?_)
          have he649801 : F649798 q649564 = .inl (I .byte, 8192, .inl f649579) := (n649800 q649564 (rn_ao he649789 he649788)).trans he649789
          have he649802 : F649798 q649563 = .inr (19, [.ref q649564, .int p649566, .int g649786, .int p649568, .int p649569, .int z649797, .int p649571, .ref qo649572, .int p649573, .int p649574, .int p649575, .ref qo649576, .ref qo649577, .int p649578]) := e649799
          have hfr649803 : rFr [q649563] P649561 F649562 F649798 := rFr_put' List.mem_cons_self hfr649790 n649800
          refine G_aload_n 1 dr_cX14_number_95 rfl ?_
          refine G_lload_n 0 dr_cX14_number_96 rfl ?_
          refine G_lload_n 0 dr_cX14_number_97 rfl ?_
          refine G_l2i dr_cX14_number_98 (G_nam fun z649804 hz649804 => ?_)
          have bz649804 : gB z649804 (-2147483648) 2147483647 := gB_any z649804
          refine G_i2l dr_cX14_number_99 (G_namL fun u649805 hu649805 => ?_)
          refine G_lcmp dr_cX14_number_100 (G_nam fun z649806 hz649806 => ?_)
          have bz649806 : gB z649806 (-1) 1 := gB_cmp hz649806
          refine G_if_ne 108 dr_cX14_number_101 (by decide +kernel) (fun hc649807 => ?_) (fun hc649807 => ?_)
          · have r649808 : z649806.toInt ≠ 0 := gj_neq hc649807 (show Int32.toInt 0 = 0 by decide)
            have lhc649807 := gC_cmpN hz649806 hc649807
            refine G_bipush 6 dr_cX14_number_108 (by decide +kernel) ?_
            refine Gp_put 3 hmq649563 he649802 dr_cX14_number_110 (gk_X14 D I) (Nat.le_of_ble_eq_true rfl) wr_9_39 rfl rfl rfl (Nat.le_of_ble_eq_true rfl) (fun F649809 e649810 n649811 => ?_)
            have he649812 : F649809 q649564 = .inl (I .byte, 8192, .inl f649579) := (n649811 q649564 (rn_ao he649801 he649802)).trans he649801
            have he649813 : F649809 q649563 = .inr (19, [.ref q649564, .int p649566, .int g649786, .int 6, .int p649569, .int z649797, .int p649571, .ref qo649572, .int p649573, .int p649574, .int p649575, .ref qo649576, .ref qo649577, .int p649578]) := e649810
            have hfr649814 : rFr [q649563] P649561 F649562 F649809 := rFr_put' List.mem_cons_self hfr649803 n649811
            exact G_vretA dr_cX14_number_113 rfl (show 0 ≤ ((16 * (p649566.toInt - p649567.toInt)).toNat) by omega) (show 0 ≤ ((160 * (p649566.toInt - p649567.toInt)).toNat) by omega) ⟨F649809, g649786, 6, z649797, rfl, rfl, hfr649814, he649813, he649812, (by omega), (by omega), bg649786, (gB_w (gBl (show Int32.toInt 6 = 6 by decide)) (by decide) (by decide)), (by have qa0 : Int32.toInt 6 = 6 := (by decide); omega), (by have qa0 : Int32.toInt 6 = 6 := (by decide); omega), (tP_no (by decide) (by decide)), (vP_no (by decide) (by decide))⟩
          · have r649815 : z649806.toInt = 0 := gj_eq hc649807 (show Int32.toInt 0 = 0 by decide)
            have bz649806' : gB z649806 0 0 := ⟨by omega, by omega⟩
            have lhc649807 := gC_cmpE hz649806 hc649807
            refine G_iconst 4 dr_cX14_number_104 (by decide +kernel) ?_
            refine G_goto 110 dr_cX14_number_105 (by decide +kernel) ?_
            refine Gp_put 3 hmq649563 he649802 dr_cX14_number_110 (gk_X14 D I) (Nat.le_of_ble_eq_true rfl) wr_9_39 rfl rfl rfl (Nat.le_of_ble_eq_true rfl) (fun F649816 e649817 n649818 => ?_)
            have he649819 : F649816 q649564 = .inl (I .byte, 8192, .inl f649579) := (n649818 q649564 (rn_ao he649801 he649802)).trans he649801
            have he649820 : F649816 q649563 = .inr (19, [.ref q649564, .int p649566, .int g649786, .int 4, .int p649569, .int z649797, .int p649571, .ref qo649572, .int p649573, .int p649574, .int p649575, .ref qo649576, .ref qo649577, .int p649578]) := e649817
            have hfr649821 : rFr [q649563] P649561 F649562 F649816 := rFr_put' List.mem_cons_self hfr649803 n649818
            exact G_vretA dr_cX14_number_113 rfl (show 0 ≤ ((16 * (p649566.toInt - p649567.toInt)).toNat) by omega) (show 0 ≤ ((160 * (p649566.toInt - p649567.toInt)).toNat) by omega) ⟨F649816, g649786, 4, z649797, rfl, rfl, hfr649821, he649820, he649819, (by omega), (by omega), bg649786, (gB_w (gBl (show Int32.toInt 4 = 4 by decide)) (by decide) (by decide)), (by have qa0 : Int32.toInt 4 = 4 := (by decide); omega), (by have qa0 : Int32.toInt 4 = 4 := (by decide); omega), (tP_no (by decide) (by decide)), (vP_no (by decide) (by decide))⟩
        · have r649822 : g649786.toInt < p649566.toInt := gC_nle hc649794
          have bg649786' : gB g649786 0 8191 := ⟨by omega, by omega⟩
          have bp649566' : gB p649566 1 8192 := ⟨by omega, by omega⟩
          refine G_aload_n 1 dr_cX14_number_27 rfl ?_
          refine Gp_get 0 hmq649563 he649788 dr_cX14_number_28 (gk_X14 D I) (Nat.le_of_ble_eq_true rfl) wr_9_36 rfl ?_
          refine G_aload_n 1 dr_cX14_number_31 rfl ?_
          refine Gp_get 2 hmq649563 he649788 dr_cX14_number_32 (gk_X14 D I) (Nat.le_of_ble_eq_true rfl) wr_9_38 rfl ?_
          refine Gp_bald 1 hmq649564 he649789 dr_cX14_number_35 rfl (gB_in bg649786' (by decide) (by decide)) (G_nam fun z649823 hz649823 => ?_)
          have bz649823 : gB z649823 (-128) 127 := by rw [hz649823]; exact bf649579 _
          refine Gw_callS (As := [.int z649823]) (gV_ok D I) (cp_649621_Reader_isDigit l hl0 D I P649561 F649787 z649823 ) dr_cX14_number_36 ⟨wr_7_219, wr_1_32, wr_7_221, by decide, rfl, (Nat.le_of_ble_eq_true rfl), (Nat.le_of_ble_eq_true rfl)⟩ wr_7_220 (show 0 + 0 ≤ ((16 * (p649566.toInt - p649567.toInt)).toNat) by first | omega | decide) (show 0 + 0 ≤ ((160 * (p649566.toInt - p649567.toInt)).toNat) by first | omega | decide) (Nat.le_of_ble_eq_true rfl) (fun r649827 w649828 dc649824 ds649825 hp649826 => ?_) (fun _ _ _ _ _ z => z.elim)
          obtain ⟨o649829, rfl, rfl, hdc, hds, bo649829, x649830⟩ := hp649826
          change G _ _ _ _ _ _ _ (.int o649829 :: _) _ _ _
          refine G_widen (cs' := 0) (sl' := 0) (by omega) (by omega) ?_
          refine G_if_eq 82 dr_cX14_number_39 (by decide +kernel) (fun hc649831 => ?_) (fun hc649831 => ?_)
          · have r649832 : o649829.toInt = 0 := gj_eq hc649831 (show Int32.toInt 0 = 0 by decide)
            have bo649829' : gB o649829 0 0 := ⟨by omega, by omega⟩
            have x649833 : p649567.toInt < g649786.toInt := by first | omega | exact cDg_lt x649582 (by omega) (by assumption) (isP_0 (by assumption) (by omega)) (by omega)
            refine G_iload_n 2 dr_cX14_number_82 rfl ?_
            refine G_if_eq 89 dr_cX14_number_83 (by decide +kernel) (fun _ => ?_) (fun hc => absurd (show False by have := gj_neq hc (show Int32.toInt 0 = 0 by decide); omega) not_false)
            refine G_aload_n 1 dr_cX14_number_89 rfl ?_
            refine G_lload_n 0 dr_cX14_number_90 rfl ?_
            refine G_l2i dr_cX14_number_91 (G_nam fun z649834 hz649834 => ?_)
            have bz649834 : gB z649834 (-2147483648) 2147483647 := gB_any z649834
            refine Gp_put 5 hmq649563 he649788 dr_cX14_number_92 (gk_X14 D I) (Nat.le_of_ble_eq_true rfl) wr_9_41 rfl rfl rfl (Nat.le_of_ble_eq_true rfl) (fun F649835 e649836 n649837 => ?_)
            have he649838 : F649835 q649564 = .inl (I .byte, 8192, .inl f649579) := (n649837 q649564 (rn_ao he649789 he649788)).trans he649789
            have he649839 : F649835 q649563 = .inr (19, [.ref q649564, .int p649566, .int g649786, .int p649568, .int p649569, .int z649834, .int p649571, .ref qo649572, .int p649573, .int p649574, .int p649575, .ref qo649576, .ref qo649577, .int p649578]) := e649836
            have hfr649840 : rFr [q649563] P649561 F649562 F649835 := rFr_put' List.mem_cons_self hfr649790 n649837
            refine G_aload_n 1 dr_cX14_number_95 rfl ?_
            refine G_lload_n 0 dr_cX14_number_96 rfl ?_
            refine G_lload_n 0 dr_cX14_number_97 rfl ?_
            refine G_l2i dr_cX14_number_98 (G_nam fun z649841 hz649841 => ?_)
            have bz649841 : gB z649841 (-2147483648) 2147483647 := gB_any z649841
            refine G_i2l dr_cX14_number_99 (G_namL fun u649842 hu649842 => ?_)
            refine G_lcmp dr_cX14_number_100 (G_nam fun z649843 hz649843 => ?_)
            have bz649843 : gB z649843 (-1) 1 := gB_cmp hz649843
            refine G_if_ne 108 dr_cX14_number_101 (by decide +kernel) (fun hc649844 => ?_) (fun hc649844 => ?_)
            · have r649845 : z649843.toInt ≠ 0 := gj_neq hc649844 (show Int32.toInt 0 = 0 by decide)
              have lhc649844 := gC_cmpN hz649843 hc649844
              refine G_bipush 6 dr_cX14_number_108 (by decide +kernel) ?_
              refine Gp_put 3 hmq649563 he649839 dr_cX14_number_110 (gk_X14 D I) (Nat.le_of_ble_eq_true rfl) wr_9_39 rfl rfl rfl (Nat.le_of_ble_eq_true rfl) (fun F649846 e649847 n649848 => ?_)
              have he649849 : F649846 q649564 = .inl (I .byte, 8192, .inl f649579) := (n649848 q649564 (rn_ao he649838 he649839)).trans he649838
              have he649850 : F649846 q649563 = .inr (19, [.ref q649564, .int p649566, .int g649786, .int 6, .int p649569, .int z649834, .int p649571, .ref qo649572, .int p649573, .int p649574, .int p649575, .ref qo649576, .ref qo649577, .int p649578]) := e649847
              have hfr649851 : rFr [q649563] P649561 F649562 F649846 := rFr_put' List.mem_cons_self hfr649840 n649848
              exact G_vretA dr_cX14_number_113 rfl (show 0 ≤ ((16 * (p649566.toInt - p649567.toInt)).toNat) by omega) (show 0 ≤ ((160 * (p649566.toInt - p649567.toInt)).toNat) by omega) ⟨F649846, g649786, 6, z649834, rfl, rfl, hfr649851, he649850, he649849, (by omega), (by omega), (gB_w bg649786' (by decide) (by decide)), (gB_w (gBl (show Int32.toInt 6 = 6 by decide)) (by decide) (by decide)), (by have qa0 : Int32.toInt 6 = 6 := (by decide); omega), (by have qa0 : Int32.toInt 6 = 6 := (by decide); omega), (tP_no (by decide) (by decide)), (vP_no (by decide) (by decide))⟩
            · have r649852 : z649843.toInt = 0 := gj_eq hc649844 (show Int32.toInt 0 = 0 by decide)
              have bz649843' : gB z649843 0 0 := ⟨by omega, by omega⟩
              have lhc649844 := gC_cmpE hz649843 hc649844
              refine G_iconst 4 dr_cX14_number_104 (by decide +kernel) ?_
              refine G_goto 110 dr_cX14_number_105 (by decide +kernel) ?_
              refine Gp_put 3 hmq649563 he649839 dr_cX14_number_110 (gk_X14 D I) (Nat.le_of_ble_eq_true rfl) wr_9_39 rfl rfl rfl (Nat.le_of_ble_eq_true rfl) (fun F649853 e649854 n649855 => ?_)
              have he649856 : F649853 q649564 = .inl (I .byte, 8192, .inl f649579) := (n649855 q649564 (rn_ao he649838 he649839)).trans he649838
              have he649857 : F649853 q649563 = .inr (19, [.ref q649564, .int p649566, .int g649786, .int 4, .int p649569, .int z649834, .int p649571, .ref qo649572, .int p649573, .int p649574, .int p649575, .ref qo649576, .ref qo649577, .int p649578]) := e649854
              have hfr649858 : rFr [q649563] P649561 F649562 F649853 := rFr_put' List.mem_cons_self hfr649840 n649855
              exact G_vretA dr_cX14_number_113 rfl (show 0 ≤ ((16 * (p649566.toInt - p649567.toInt)).toNat) by omega) (show 0 ≤ ((160 * (p649566.toInt - p649567.toInt)).toNat) by omega) ⟨F649853, g649786, 4, z649834, rfl, rfl, hfr649858, he649857, he649856, (by omega), (by omega), (gB_w bg649786' (by decide) (by decide)), (gB_w (gBl (show Int32.toInt 4 = 4 by decide)) (by decide) (by decide)), (by have qa0 : Int32.toInt 4 = 4 := (by decide); omega), (by have qa0 : Int32.toInt 4 = 4 := (by decide); omega), (tP_no (by decide) (by decide)), (vP_no (by decide) (by decide))⟩
          · have r649859 : o649829.toInt ≠ 0 := gj_neq hc649831 (show Int32.toInt 0 = 0 by decide)
            have bo649829' : gB o649829 1 1 := ⟨by omega, by omega⟩
            have bi649860 : gB z649823 48 57 := isP_1 x649830 (by omega)
            refine G_lload_n 0 dr_cX14_number_42 rfl ?_
            refine G_ldc2 10 dr_cX14_number_43 wr_7_229 ?_
            refine G_lmul dr_cX14_number_46 (G_namL fun u649861 hu649861 => ?_)
            refine G_aload_n 1 dr_cX14_number_47 rfl ?_
            refine Gp_get 0 hmq649563 he649788 dr_cX14_number_48 (gk_X14 D I) (Nat.le_of_ble_eq_true rfl) wr_9_36 rfl ?_
            refine G_aload_n 1 dr_cX14_number_51 rfl ?_
            refine Gp_get 2 hmq649563 he649788 dr_cX14_number_52 (gk_X14 D I) (Nat.le_of_ble_eq_true rfl) wr_9_38 rfl ?_
            refine Gp_bald 1 hmq649564 he649789 dr_cX14_number_55 rfl (gB_in bg649786' (by decide) (by decide)) (G_eqi (y := z649823) hz649823.symm ?_)
            refine G_i2l dr_cX14_number_56 (G_namL fun u649862 hu649862 => ?_)
            refine G_ladd dr_cX14_number_57 (G_namL fun u649863 hu649863 => ?_)
            refine G_ldc2 48 dr_cX14_number_58 wr_7_230 ?_
            refine G_lsub dr_cX14_number_61 (G_namL fun u649864 hu649864 => ?_)
            refine G_ldc2 1099511627776 dr_cX14_number_62 wr_8_222 ?_
            refine Gw_callS (As := [.long u649864, .long 1099511627776]) (gV_ok D I) (cp_649674_Math_min l hl0 D I P649561 F649787 u649864 1099511627776 ) dr_cX14_number_65 ⟨wr_7_232, wr_1_6, wr_3_40, by decide, rfl, (Nat.le_of_ble_eq_true rfl), (Nat.le_of_ble_eq_true rfl)⟩ wr_3_39 (show 0 + 0 ≤ ((16 * (p649566.toInt - p649567.toInt)).toNat) by first | omega | decide) (show 0 + 0 ≤ ((160 * (p649566.toInt - p649567.toInt)).toNat) by first | omega | decide) (Nat.le_of_ble_eq_true rfl) (fun r649868 w649869 dc649865 ds649866 hp649867 => ?_) (fun _ _ _ _ _ z => z.elim)
            obtain ⟨ol649870, rfl, rfl, hdc, hds, x649871⟩ := hp649867
            change G _ _ _ _ _ _ _ (.long ol649870 :: _) _ _ _
            refine G_widen (cs' := 0) (sl' := 0) (by omega) (by omega) ?_
            refine G_lstore_n (L' := [(2, .long ol649870), (0, .ref q649563), (1, .int p649565)]) dr_cX14_number_68 (Nat.le_of_ble_eq_true rfl) rfl ?_
            refine G_aload_n 1 dr_cX14_number_69 rfl ?_
            refine G_dup dr_cX14_number_70 rfl ?_
            refine Gp_get 2 hmq649563 he649788 dr_cX14_number_71 (gk_X14 D I) (Nat.le_of_ble_eq_true rfl) wr_9_38 rfl ?_
            refine G_iconst 1 dr_cX14_number_74 (by decide +kernel) ?_
            refine G_iadd dr_cX14_number_75 (G_nam fun z649872 hz649872 => ?_)
            have ez649872 : z649872.toInt = g649786.toInt + 1 := by rw [gI_add hz649872 bg649786' (gBl (show Int32.toInt 1 = 1 by decide)) (by decide) (by decide), show Int32.toInt 1 = 1 from by decide]
            have bz649872 : gB z649872 1 8192 := gB_add (gI_add hz649872 bg649786' (gBl (show Int32.toInt 1 = 1 by decide)) (by decide) (by decide)) bg649786' (gBl (show Int32.toInt 1 = 1 by decide)) (by decide) (by decide)
            refine Gp_put 2 hmq649563 he649788 dr_cX14_number_76 (gk_X14 D I) (Nat.le_of_ble_eq_true rfl) wr_9_38 rfl rfl rfl (Nat.le_of_ble_eq_true rfl) (fun F649873 e649874 n649875 => ?_)
            have he649876 : F649873 q649564 = .inl (I .byte, 8192, .inl f649579) := (n649875 q649564 (rn_ao he649789 he649788)).trans he649789
            have he649877 : F649873 q649563 = .inr (19, [.ref q649564, .int p649566, .int z649872, .int p649568, .int p649569, .int p649570, .int p649571, .ref qo649572, .int p649573, .int p649574, .int p649575, .ref qo649576, .ref qo649577, .int p649578]) := e649874
            have hfr649878 : rFr [q649563] P649561 F649562 F649873 := rFr_put' List.mem_cons_self hfr649790 n649875
            refine G_goto 16 dr_cX14_number_79 (by decide +kernel) ?_
            exact ih16_649793 F649873 ol649870 z649872 (gB_w bz649872 (by decide) (by decide)) hfr649878 he649877 he649876 (by omega) (by omega) (by omega) (by omega)
    exact hlp16_649793 (((8193 : Int) - p649567.toInt).toNat + 1) F649562 0 p649567 bp649567 (rFr_v (rFr_rf (W := []) (P := P649561) (F := F649562)) (fun b hn => nm_n)) heq649563 heq649564 (by omega) (by omega) (by omega) (Nat.lt_succ_self _)
  · have r649879 : p649565.toInt ≠ 0 := gj_neq hc649586 (show Int32.toInt 0 = 0 by decide)
    have bp649565' : gB p649565 1 1 := ⟨by omega, by omega⟩
    refine G_aload_n 0 dr_cX14_number_4 rfl ?_
    refine G_dup dr_cX14_number_5 rfl ?_
    refine Gp_get 2 hmq649563 heq649563 dr_cX14_number_6 (gk_X14 D I) (Nat.le_of_ble_eq_true rfl) wr_9_38 rfl ?_
    refine G_iconst 1 dr_cX14_number_9 (by decide +kernel) ?_
    refine G_iadd dr_cX14_number_10 (G_nam fun z649880 hz649880 => ?_)
    have ez649880 : z649880.toInt = p649567.toInt + 1 := by rw [gI_add hz649880 bp649567 (gBl (show Int32.toInt 1 = 1 by decide)) (by decide) (by decide), show Int32.toInt 1 = 1 from by decide]
    have bz649880 : gB z649880 1 8193 := gB_add (gI_add hz649880 bp649567 (gBl (show Int32.toInt 1 = 1 by decide)) (by decide) (by decide)) bp649567 (gBl (show Int32.toInt 1 = 1 by decide)) (by decide) (by decide)
    refine Gp_put 2 hmq649563 heq649563 dr_cX14_number_11 (gk_X14 D I) (Nat.le_of_ble_eq_true rfl) wr_9_38 rfl rfl rfl (Nat.le_of_ble_eq_true rfl) (fun F649881 e649882 n649883 => ?_)
    have he649884 : F649881 q649564 = .inl (I .byte, 8192, .inl f649579) := (n649883 q649564 (rn_ao heq649564 heq649563)).trans heq649564
    have he649885 : F649881 q649563 = .inr (19, [.ref q649564, .int p649566, .int z649880, .int p649568, .int p649569, .int p649570, .int p649571, .ref qo649572, .int p649573, .int p649574, .int p649575, .ref qo649576, .ref qo649577, .int p649578]) := e649882
    have hfr649886 : rFr [q649563] P649561 F649562 F649881 := rFr_put (rFr_rf (W := []) (P := P649561) (F := F649562)) n649883
    refine G_lconst 0 dr_cX14_number_14 rfl ?_
    refine G_lstore_n (L' := [(2, .long 0), (0, .ref q649563), (1, .int p649565)]) dr_cX14_number_15 (Nat.le_of_ble_eq_true rfl) rfl ?_
    have hlp16_650075 : ∀ (n16_650075 : Nat) (F650069 : Nat → va_E) (gl650067 : Int64) (g650068 : Int32), gB g650068 0 8192 → rFr [q649563] P649561 F649562 F650069 → F650069 q649563 = .inr (19, [.ref q649564, .int p649566, .int g650068, .int p649568, .int p649569, .int p649570, .int p649571, .ref qo649572, .int p649573, .int p649574, .int p649575, .ref qo649576, .ref qo649577, .int p649578]) → F650069 q649564 = .inl (I .byte, 8192, .inl f649579) → p649567.toInt ≤ g650068.toInt → g650068.toInt ≤ p649566.toInt → (p649565.toInt = 0 ∨ p649567.toInt < g650068.toInt) → ((8193 : Int) - g650068.toInt).toNat < n16_650075 → G (gV D I) l (gRm 1 23 ((16 * (p649566.toInt - p649567.toInt)).toNat) ((160 * (p649566.toInt - p649567.toInt)).toNat)) (gMA (gV D I) (pp_649585_Reader_number D I P649561 F649562 q649563 q649564 p649565 p649566 p649567 p649568 p649569 p649570 p649571 qo649572 p649573 p649574 p649575 qo649576 qo649577 p649578 f649579) gNA ((16 * (p649566.toInt - p649567.toInt)).toNat) ((160 * (p649566.toInt - p649567.toInt)).toNat)) ky_649585_Reader_number 16 [(2, .long gl650067), (0, .ref q649563), (1, .int p649565)] [] (va_pl P649561 F650069) 0 0 := by
      intro n16_650075
      induction n16_650075 with
      | zero => intro F650069 gl650067 g650068 bg650068 hfr650072 he650070 he650071 x650073 x650074 x650075 hm16_650075; exact absurd hm16_650075 (Nat.not_lt_zero _)
      | succ n16_650075 ih16_650075 =>
        intro F650069 gl650067 g650068 bg650068 hfr650072 he650070 he650071 x650073 x650074 x650075 hm16_650075
        refine G_aload_n 1 dr_cX14_number_16 rfl ?_
        refine Gp_get 2 hmq649563 he650070 dr_cX14_number_17 (gk_X14 D I) (Nat.le_of_ble_eq_true rfl) wr_9_38 rfl ?_
        refine G_aload_n 1 dr_cX14_number_20 rfl ?_
        refine Gp_get 1 hmq649563 he650070 dr_cX14_number_21 (gk_X14 D I) (Nat.le_of_ble_eq_true rfl) wr_9_37 rfl ?_
        refine G_icmp_ge 82 dr_cX14_number_24 (by decide +kernel) (fun hc650076 => ?_) (fun hc650076 => ?_)
        · have r650077 : p649566.toInt ≤ g650068.toInt := gC_le hc650076
          have x650078 : p649567.toInt < g650068.toInt := by first | omega | exact cDg_lt x649582 (by omega) (by assumption) (isP_0 (by assumption) (by omega)) (by omega)
          refine G_iload_n 2 dr_cX14_number_82 rfl ?_
          refine G_if_eq 89 dr_cX14_number_83 (by decide +kernel) (fun hc => absurd (show False by have := gj_eq hc (show Int32.toInt 0 = 0 by decide); omega) not_false) (fun _ => ?_)
          refine G_lload_n 0 dr_cX14_number_86 rfl ?_
          refine G_lneg dr_cX14_number_87 (G_namL fun u650079 hu650079 => ?_)
          refine G_lstore_n (L' := [(2, .long u650079), (0, .ref q649563), (1, .int p649565)]) dr_cX14_number_88 (Nat.le_of_ble_eq_true rfl) rfl ?_
          refine G_aload_n 1 dr_cX14_number_89 rfl ?_
          refine G_lload_n 0 dr_cX14_number_90 rfl ?_
          refine G_l2i dr_cX14_number_91 (G_nam fun z650080 hz650080 => ?_)
          have bz650080 : gB z650080 (-2147483648) 2147483647 := gB_any z650080
          refine Gp_put 5 hmq649563 he650070 dr_cX14_number_92 (gk_X14 D I) (Nat.le_of_ble_eq_true rfl) wr_9_41 rfl rfl rfl (Nat.le_of_ble_eq_true rfl) (fun F650081 e650082 n650083 => ?_)
          have he650084 : F650081 q649564 = .inl (I .byte, 8192, .inl f649579) := (n650083 q649564 (rn_ao he650071 he650070)).trans he650071
          have he650085 : F650081 q649563 = .inr (19, [.ref q649564, .int p649566, .int g650068, .int p649568, .int p649569, .int z650080, .int p649571, .ref qo649572, .int p649573, .int p649574, .int p649575, .ref qo649576, .ref qo649577, .int p649578]) := e650082
          have hfr650086 : rFr [q649563] P649561 F649562 F650081 := rFr_put' List.mem_cons_self hfr650072 n650083
          refine G_aload_n 1 dr_cX14_number_95 rfl ?_
          refine G_lload_n 0 dr_cX14_number_96 rfl ?_
          refine G_lload_n 0 dr_cX14_number_97 rfl ?_
          refine G_l2i dr_cX14_number_98 (G_nam fun z650087 hz650087 => ?_)
          have bz650087 : gB z650087 (-2147483648) 2147483647 := gB_any z650087
          refine G_i2l dr_cX14_number_99 (G_namL fun u650088 hu650088 => ?_)
          refine G_lcmp dr_cX14_number_100 (G_nam fun z650089 hz650089 => ?_)
          have bz650089 : gB z650089 (-1) 1 := gB_cmp hz650089
          refine G_if_ne 108 dr_cX14_number_101 (by decide +kernel) (fun hc650090 => ?_) (fun hc650090 => ?_)
          · have r650091 : z650089.toInt ≠ 0 := gj_neq hc650090 (show Int32.toInt 0 = 0 by decide)
            have lhc650090 := gC_cmpN hz650089 hc650090
            refine G_bipush 6 dr_cX14_number_108 (by decide +kernel) ?_
            refine Gp_put 3 hmq649563 he650085 dr_cX14_number_110 (gk_X14 D I) (Nat.le_of_ble_eq_true rfl) wr_9_39 rfl rfl rfl (Nat.le_of_ble_eq_true rfl) (fun F650092 e650093 n650094 => ?_)
            have he650095 : F650092 q649564 = .inl (I .byte, 8192, .inl f649579) := (n650094 q649564 (rn_ao he650084 he650085)).trans he650084
            have he650096 : F650092 q649563 = .inr (19, [.ref q649564, .int p649566, .int g650068, .int 6, .int p649569, .int z650080, .int p649571, .ref qo649572, .int p649573, .int p649574, .int p649575, .ref qo649576, .ref qo649577, .int p649578]) := e650093
            have hfr650097 : rFr [q649563] P649561 F649562 F650092 := rFr_put' List.mem_cons_self hfr650086 n650094
            exact G_vretA dr_cX14_number_113 rfl (show 0 ≤ ((16 * (p649566.toInt - p649567.toInt)).toNat) by omega) (show 0 ≤ ((160 * (p649566.toInt - p649567.toInt)).toNat) by omega) ⟨F650092, g650068, 6, z650080, rfl, rfl, hfr650097, he650096, he650095, (by omega), (by omega), bg650068, (gB_w (gBl (show Int32.toInt 6 = 6 by decide)) (by decide) (by decide)), (by have qa0 : Int32.toInt 6 = 6 := (by decide); omega), (by have qa0 : Int32.toInt 6 = 6 := (by decide); omega), (tP_no (by decide) (by decide)), (vP_no (by decide) (by decide))⟩
          · have r650098 : z650089.toInt = 0 := gj_eq hc650090 (show Int32.toInt 0 = 0 by decide)
            have bz650089' : gB z650089 0 0 := ⟨by omega, by omega⟩
            have lhc650090 := gC_cmpE hz650089 hc650090
            refine G_iconst 4 dr_cX14_number_104 (by decide +kernel) ?_
            refine G_goto 110 dr_cX14_number_105 (by decide +kernel) ?_
            refine Gp_put 3 hmq649563 he650085 dr_cX14_number_110 (gk_X14 D I) (Nat.le_of_ble_eq_true rfl) wr_9_39 rfl rfl rfl (Nat.le_of_ble_eq_true rfl) (fun F650099 e650100 n650101 => ?_)
            have he650102 : F650099 q649564 = .inl (I .byte, 8192, .inl f649579) := (n650101 q649564 (rn_ao he650084 he650085)).trans he650084
            have he650103 : F650099 q649563 = .inr (19, [.ref q649564, .int p649566, .int g650068, .int 4, .int p649569, .int z650080, .int p649571, .ref qo649572, .int p649573, .int p649574, .int p649575, .ref qo649576, .ref qo649577, .int p649578]) := e650100
            have hfr650104 : rFr [q649563] P649561 F649562 F650099 := rFr_put' List.mem_cons_self hfr650086 n650101
            exact G_vretA dr_cX14_number_113 rfl (show 0 ≤ ((16 * (p649566.toInt - p649567.toInt)).toNat) by omega) (show 0 ≤ ((160 * (p649566.toInt - p649567.toInt)).toNat) by omega) ⟨F650099, g650068, 4, z650080, rfl, rfl, hfr650104, he650103, he650102, (by omega), (by omega), bg650068, (gB_w (gBl (show Int32.toInt 4 = 4 by decide)) (by decide) (by decide)), (by have qa0 : Int32.toInt 4 = 4 := (by decide); omega), (by have qa0 : Int32.toInt 4 = 4 := (by decide); omega), (tP_no (by decide) (by decide)), (vP_no (by decide) (by decide))⟩
        · have r650105 : g650068.toInt < p649566.toInt := gC_nle hc650076
          have bg650068' : gB g650068 0 8191 := ⟨by omega, by omega⟩
          have bp649566' : gB p649566 1 8192 := ⟨by omega, by omega⟩
          refine G_aload_n 1 dr_cX14_number_27 rfl ?_
          refine Gp_get 0 hmq649563 he650070 dr_cX14_number_28 (gk_X14 D I) (Nat.le_of_ble_eq_true rfl) wr_9_36 rfl ?_
          refine G_aload_n 1 dr_cX14_number_31 rfl ?_
          refine Gp_get 2 hmq649563 he650070 dr_cX14_number_32 (gk_X14 D I) (Nat.le_of_ble_eq_true rfl) wr_9_38 rfl ?_
          refine Gp_bald 1 hmq649564 he650071 dr_cX14_number_35 rfl (gB_in bg650068' (by decide) (by decide)) (G_nam fun z650106 hz650106 => ?_)
          have bz650106 : gB z650106 (-128) 127 := by rw [hz650106]; exact bf649579 _
          refine Gw_callS (As := [.int z650106]) (gV_ok D I) (cp_649621_Reader_isDigit l hl0 D I P649561 F650069 z650106 ) dr_cX14_number_36 ⟨wr_7_219, wr_1_32, wr_7_221, by decide, rfl, (Nat.le_of_ble_eq_true rfl), (Nat.le_of_ble_eq_true rfl)⟩ wr_7_220 (show 0 + 0 ≤ ((16 * (p649566.toInt - p649567.toInt)).toNat) by first | omega | decide) (show 0 + 0 ≤ ((160 * (p649566.toInt - p649567.toInt)).toNat) by first | omega | decide) (Nat.le_of_ble_eq_true rfl) (fun r650110 w650111 dc650107 ds650108 hp650109 => ?_) (fun _ _ _ _ _ z => z.elim)
          obtain ⟨o650112, rfl, rfl, hdc, hds, bo650112, x650113⟩ := hp650109
          change G _ _ _ _ _ _ _ (.int o650112 :: _) _ _ _
          refine G_widen (cs' := 0) (sl' := 0) (by omega) (by omega) ?_
          refine G_if_eq 82 dr_cX14_number_39 (by decide +kernel) (fun hc650114 => ?_) (fun hc650114 => ?_)
          · have r650115 : o650112.toInt = 0 := gj_eq hc650114 (show Int32.toInt 0 = 0 by decide)
            have bo650112' : gB o650112 0 0 := ⟨by omega, by omega⟩
            have x650116 : p649567.toInt < g650068.toInt := by first | omega | exact cDg_lt x649582 (by omega) (by assumption) (isP_0 (by assumption) (by omega)) (by omega)
            refine G_iload_n 2 dr_cX14_number_82 rfl ?_
            refine G_if_eq 89 dr_cX14_number_83 (by decide +kernel) (fun hc => absurd (show False by have := gj_eq hc (show Int32.toInt 0 = 0 by decide); omega) not_false) (fun _ => ?_)
            refine G_lload_n 0 dr_cX14_number_86 rfl ?_
            refine G_lneg dr_cX14_number_87 (G_namL fun u650117 hu650117 => ?_)
            refine G_lstore_n (L' := [(2, .long u650117), (0, .ref q649563), (1, .int p649565)]) dr_cX14_number_88 (Nat.le_of_ble_eq_true rfl) rfl ?_
            refine G_aload_n 1 dr_cX14_number_89 rfl ?_
            refine G_lload_n 0 dr_cX14_number_90 rfl ?_
            refine G_l2i dr_cX14_number_91 (G_nam fun z650118 hz650118 => ?_)
            have bz650118 : gB z650118 (-2147483648) 2147483647 := gB_any z650118
            refine Gp_put 5 hmq649563 he650070 dr_cX14_number_92 (gk_X14 D I) (Nat.le_of_ble_eq_true rfl) wr_9_41 rfl rfl rfl (Nat.le_of_ble_eq_true rfl) (fun F650119 e650120 n650121 => ?_)
            have he650122 : F650119 q649564 = .inl (I .byte, 8192, .inl f649579) := (n650121 q649564 (rn_ao he650071 he650070)).trans he650071
            have he650123 : F650119 q649563 = .inr (19, [.ref q649564, .int p649566, .int g650068, .int p649568, .int p649569, .int z650118, .int p649571, .ref qo649572, .int p649573, .int p649574, .int p649575, .ref qo649576, .ref qo649577, .int p649578]) := e650120
            have hfr650124 : rFr [q649563] P649561 F649562 F650119 := rFr_put' List.mem_cons_self hfr650072 n650121
            refine G_aload_n 1 dr_cX14_number_95 rfl ?_
            refine G_lload_n 0 dr_cX14_number_96 rfl ?_
            refine G_lload_n 0 dr_cX14_number_97 rfl ?_
            refine G_l2i dr_cX14_number_98 (G_nam fun z650125 hz650125 => ?_)
            have bz650125 : gB z650125 (-2147483648) 2147483647 := gB_any z650125
            refine G_i2l dr_cX14_number_99 (G_namL fun u650126 hu650126 => ?_)
            refine G_lcmp dr_cX14_number_100 (G_nam fun z650127 hz650127 => ?_)
            have bz650127 : gB z650127 (-1) 1 := gB_cmp hz650127
            refine G_if_ne 108 dr_cX14_number_101 (by decide +kernel) (fun hc650128 => ?_) (fun hc650128 => ?_)
            · have r650129 : z650127.toInt ≠ 0 := gj_neq hc650128 (show Int32.toInt 0 = 0 by decide)
              have lhc650128 := gC_cmpN hz650127 hc650128
              refine G_bipush 6 dr_cX14_number_108 (by decide +kernel) ?_
              refine Gp_put 3 hmq649563 he650123 dr_cX14_number_110 (gk_X14 D I) (Nat.le_of_ble_eq_true rfl) wr_9_39 rfl rfl rfl (Nat.le_of_ble_eq_true rfl) (fun F650130 e650131 n650132 => ?_)
              have he650133 : F650130 q649564 = .inl (I .byte, 8192, .inl f649579) := (n650132 q649564 (rn_ao he650122 he650123)).trans he650122
              have he650134 : F650130 q649563 = .inr (19, [.ref q649564, .int p649566, .int g650068, .int 6, .int p649569, .int z650118, .int p649571, .ref qo649572, .int p649573, .int p649574, .int p649575, .ref qo649576, .ref qo649577, .int p649578]) := e650131
              have hfr650135 : rFr [q649563] P649561 F649562 F650130 := rFr_put' List.mem_cons_self hfr650124 n650132
              exact G_vretA dr_cX14_number_113 rfl (show 0 ≤ ((16 * (p649566.toInt - p649567.toInt)).toNat) by omega) (show 0 ≤ ((160 * (p649566.toInt - p649567.toInt)).toNat) by omega) ⟨F650130, g650068, 6, z650118, rfl, rfl, hfr650135, he650134, he650133, (by omega), (by omega), (gB_w bg650068' (by decide) (by decide)), (gB_w (gBl (show Int32.toInt 6 = 6 by decide)) (by decide) (by decide)), (by have qa0 : Int32.toInt 6 = 6 := (by decide); omega), (by have qa0 : Int32.toInt 6 = 6 := (by decide); omega), (tP_no (by decide) (by decide)), (vP_no (by decide) (by decide))⟩
            · have r650136 : z650127.toInt = 0 := gj_eq hc650128 (show Int32.toInt 0 = 0 by decide)
              have bz650127' : gB z650127 0 0 := ⟨by omega, by omega⟩
              have lhc650128 := gC_cmpE hz650127 hc650128
              refine G_iconst 4 dr_cX14_number_104 (by decide +kernel) ?_
              refine G_goto 110 dr_cX14_number_105 (by decide +kernel) ?_
              refine Gp_put 3 hmq649563 he650123 dr_cX14_number_110 (gk_X14 D I) (Nat.le_of_ble_eq_true rfl) wr_9_39 rfl rfl rfl (Nat.le_of_ble_eq_true rfl) (fun F650137 e650138 n650139 => ?_)
              have he650140 : F650137 q649564 = .inl (I .byte, 8192, .inl f649579) := (n650139 q649564 (rn_ao he650122 he650123)).trans he650122
              have he650141 : F650137 q649563 = .inr (19, [.ref q649564, .int p649566, .int g650068, .int 4, .int p649569, .int z650118, .int p649571, .ref qo649572, .int p649573, .int p649574, .int p649575, .ref qo649576, .ref qo649577, .int p649578]) := e650138
              have hfr650142 : rFr [q649563] P649561 F649562 F650137 := rFr_put' List.mem_cons_self hfr650124 n650139
              exact G_vretA dr_cX14_number_113 rfl (show 0 ≤ ((16 * (p649566.toInt - p649567.toInt)).toNat) by omega) (show 0 ≤ ((160 * (p649566.toInt - p649567.toInt)).toNat) by omega) ⟨F650137, g650068, 4, z650118, rfl, rfl, hfr650142, he650141, he650140, (by omega), (by omega), (gB_w bg650068' (by decide) (by decide)), (gB_w (gBl (show Int32.toInt 4 = 4 by decide)) (by decide) (by decide)), (by have qa0 : Int32.toInt 4 = 4 := (by decide); omega), (by have qa0 : Int32.toInt 4 = 4 := (by decide); omega), (tP_no (by decide) (by decide)), (vP_no (by decide) (by decide))⟩
          · have r650143 : o650112.toInt ≠ 0 := gj_neq hc650114 (show Int32.toInt 0 = 0 by decide)
            have bo650112' : gB o650112 1 1 := ⟨by omega, by omega⟩
            have bi650144 : gB z650106 48 57 := isP_1 x650113 (by omega)
            refine G_lload_n 0 dr_cX14_number_42 rfl ?_
            refine G_ldc2 10 dr_cX14_number_43 wr_7_229 ?_
            refine G_lmul dr_cX14_number_46 (G_namL fun u650145 hu650145 => ?_)
            refine G_aload_n 1 dr_cX14_number_47 rfl ?_
            refine Gp_get 0 hmq649563 he650070 dr_cX14_number_48 (gk_X14 D I) (Nat.le_of_ble_eq_true rfl) wr_9_36 rfl ?_
            refine G_aload_n 1 dr_cX14_number_51 rfl ?_
            refine Gp_get 2 hmq649563 he650070 dr_cX14_number_52 (gk_X14 D I) (Nat.le_of_ble_eq_true rfl) wr_9_38 rfl ?_
            refine Gp_bald 1 hmq649564 he650071 dr_cX14_number_55 rfl (gB_in bg650068' (by decide) (by decide)) (G_eqi (y := z650106) hz650106.symm ?_)
            refine G_i2l dr_cX14_number_56 (G_namL fun u650146 hu650146 => ?_)
            refine G_ladd dr_cX14_number_57 (G_namL fun u650147 hu650147 => ?_)
            refine G_ldc2 48 dr_cX14_number_58 wr_7_230 ?_
            refine G_lsub dr_cX14_number_61 (G_namL fun u650148 hu650148 => ?_)
            refine G_ldc2 1099511627776 dr_cX14_number_62 wr_8_222 ?_
            refine Gw_callS (As := [.long u650148, .long 1099511627776]) (gV_ok D I) (cp_649674_Math_min l hl0 D I P649561 F650069 u650148 1099511627776 ) dr_cX14_number_65 ⟨wr_7_232, wr_1_6, wr_3_40, by decide, rfl, (Nat.le_of_ble_eq_true rfl), (Nat.le_of_ble_eq_true rfl)⟩ wr_3_39 (show 0 + 0 ≤ ((16 * (p649566.toInt - p649567.toInt)).toNat) by first | omega | decide) (show 0 + 0 ≤ ((160 * (p649566.toInt - p649567.toInt)).toNat) by first | omega | decide) (Nat.le_of_ble_eq_true rfl) (fun r650152 w650153 dc650149 ds650150 hp650151 => ?_) (fun _ _ _ _ _ z => z.elim)
            obtain ⟨ol650154, rfl, rfl, hdc, hds, x650155⟩ := hp650151
            change G _ _ _ _ _ _ _ (.long ol650154 :: _) _ _ _
            refine G_widen (cs' := 0) (sl' := 0) (by omega) (by omega) ?_
            refine G_lstore_n (L' := [(2, .long ol650154), (0, .ref q649563), (1, .int p649565)]) dr_cX14_number_68 (Nat.le_of_ble_eq_true rfl) rfl ?_
            refine G_aload_n 1 dr_cX14_number_69 rfl ?_
            refine G_dup dr_cX14_number_70 rfl ?_
            refine Gp_get 2 hmq649563 he650070 dr_cX14_number_71 (gk_X14 D I) (Nat.le_of_ble_eq_true rfl) wr_9_38 rfl ?_
            refine G_iconst 1 dr_cX14_number_74 (by decide +kernel) ?_
            refine G_iadd dr_cX14_number_75 (G_nam fun z650156 hz650156 => ?_)
            have ez650156 : z650156.toInt = g650068.toInt + 1 := by rw [gI_add hz650156 bg650068' (gBl (show Int32.toInt 1 = 1 by decide)) (by decide) (by decide), show Int32.toInt 1 = 1 from by decide]
            have bz650156 : gB z650156 1 8192 := gB_add (gI_add hz650156 bg650068' (gBl (show Int32.toInt 1 = 1 by decide)) (by decide) (by decide)) bg650068' (gBl (show Int32.toInt 1 = 1 by decide)) (by decide) (by decide)
            refine Gp_put 2 hmq649563 he650070 dr_cX14_number_76 (gk_X14 D I) (Nat.le_of_ble_eq_true rfl) wr_9_38 rfl rfl rfl (Nat.le_of_ble_eq_true rfl) (fun F650157 e650158 n650159 => ?_)
            have he650160 : F650157 q649564 = .inl (I .byte, 8192, .inl f649579) := (n650159 q649564 (rn_ao he650071 he650070)).trans he650071
            have he650161 : F650157 q649563 = .inr (19, [.ref q649564, .int p649566, .int z650156, .int p649568, .int p649569, .int p649570, .int p649571, .ref qo649572, .int p649573, .int p649574, .int p649575, .ref qo649576, .ref qo649577, .int p649578]) := e650158
            have hfr650162 : rFr [q649563] P649561 F649562 F650157 := rFr_put' List.mem_cons_self hfr650072 n650159
            refine G_goto 16 dr_cX14_number_79 (by decide +kernel) ?_
            exact ih16_650075 F650157 ol650154 z650156 (gB_w bz650156 (by decide) (by decide)) hfr650162 he650161 he650160 (by omega) (by omega) (by omega) (by omega)
    exact hlp16_650075 (((8193 : Int) - z649880.toInt).toNat + 1) F649881 0 z649880 ⟨by omega, by omega⟩ hfr649886 he649885 he649884 (by omega) (by omega) (by omega) (Nat.lt_succ_self _)
