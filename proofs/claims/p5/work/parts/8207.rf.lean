theorem dr_cJ5_append_c97b9_0 : decode cJ5_append_c97b9 0 = .ok (.aload_n 0, 1) := by decide +kernel
theorem dr_cJ5_append_c97b9_1 : decode cJ5_append_c97b9 1 = .ok (.getfield 79, 3) := by decide +kernel
theorem dr_cJ5_append_c97b9_4 : decode cJ5_append_c97b9 4 = .ok (.istore_n 2, 1) := by decide +kernel
theorem dr_cJ5_append_c97b9_5 : decode cJ5_append_c97b9 5 = .ok (.iload_n 2, 1) := by decide +kernel
theorem dr_cJ5_append_c97b9_6 : decode cJ5_append_c97b9 6 = .ok (.iload_n 1, 1) := by decide +kernel
theorem dr_cJ5_append_c97b9_7 : decode cJ5_append_c97b9 7 = .ok (.invokestatic 245, 3) := by decide +kernel
theorem wr_8_108 : (Jvm.Cond.methodLink "java/lang/AbstractStringBuilder" (245 : Nat) ({ cls := "java/lang/Integer", name := "stringSize", desc := "(I)I" } : Jvm.MethodName)) ∈ gw := gw_8 108 rfl rfl
theorem wr_8_110 : (Jvm.Cond.code ({ cls := "java/lang/Integer", name := "stringSize", desc := "(I)I" } : Jvm.MethodName) prog_29_method_13_code (4 : Nat) (Option.some Jvm.ClassFile.FieldType.int)) ∈ gw := gw_8 110 rfl rfl
theorem wr_8_109 : (Jvm.Cond.static ({ cls := "java/lang/Integer", name := "stringSize", desc := "(I)I" } : Jvm.MethodName)) ∈ gw := gw_8 109 rfl rfl
theorem dr_cJ5_append_c97b9_10 : decode cJ5_append_c97b9 10 = .ok (.iadd, 1) := by decide +kernel
theorem dr_cJ5_append_c97b9_11 : decode cJ5_append_c97b9 11 = .ok (.istore_n 3, 1) := by decide +kernel
theorem dr_cJ5_append_c97b9_12 : decode cJ5_append_c97b9 12 = .ok (.aload_n 0, 1) := by decide +kernel
theorem dr_cJ5_append_c97b9_13 : decode cJ5_append_c97b9 13 = .ok (.iload_n 3, 1) := by decide +kernel
theorem dr_cJ5_append_c97b9_14 : decode cJ5_append_c97b9 14 = .ok (.invokevirtual 100, 3) := by decide +kernel
theorem dr_cJ5_append_c97b9_17 : decode cJ5_append_c97b9 17 = .ok (.aload_n 0, 1) := by decide +kernel
theorem dr_cJ5_append_c97b9_18 : decode cJ5_append_c97b9 18 = .ok (.invokevirtual 83, 3) := by decide +kernel
theorem dr_cJ5_append_c97b9_21 : decode cJ5_append_c97b9 21 = .ok (.ifCond .eq 16, 3) := by decide +kernel
theorem dr_cJ5_append_c97b9_24 : decode cJ5_append_c97b9 24 = .ok (.iload_n 1, 1) := by decide +kernel
theorem dr_cJ5_append_c97b9_25 : decode cJ5_append_c97b9 25 = .ok (.iload_n 3, 1) := by decide +kernel
theorem dr_cJ5_append_c97b9_26 : decode cJ5_append_c97b9 26 = .ok (.aload_n 0, 1) := by decide +kernel
theorem dr_cJ5_append_c97b9_27 : decode cJ5_append_c97b9 27 = .ok (.getfield 15, 3) := by decide +kernel
theorem dr_cJ5_append_c97b9_30 : decode cJ5_append_c97b9 30 = .ok (.invokestatic 248, 3) := by decide +kernel
theorem wr_8_111 : (Jvm.Cond.methodLink "java/lang/AbstractStringBuilder" (248 : Nat) ({ cls := "java/lang/Integer", name := "getChars", desc := "(II[B)I" } : Jvm.MethodName)) ∈ gw := gw_8 111 rfl rfl
theorem wr_8_113 : (Jvm.Cond.code ({ cls := "java/lang/Integer", name := "getChars", desc := "(II[B)I" } : Jvm.MethodName) prog_29_method_12_code (7 : Nat) (Option.some Jvm.ClassFile.FieldType.int)) ∈ gw := gw_8 113 rfl rfl
theorem wr_8_112 : (Jvm.Cond.static ({ cls := "java/lang/Integer", name := "getChars", desc := "(II[B)I" } : Jvm.MethodName)) ∈ gw := gw_8 112 rfl rfl
theorem dr_cJ5_append_c97b9_33 : decode cJ5_append_c97b9 33 = .ok (.pop, 1) := by decide +kernel
theorem dr_cJ5_append_c97b9_34 : decode cJ5_append_c97b9 34 = .ok (.goto 14, 3) := by decide +kernel
theorem dr_cJ5_append_c97b9_48 : decode cJ5_append_c97b9 48 = .ok (.aload_n 0, 1) := by decide +kernel
theorem dr_cJ5_append_c97b9_49 : decode cJ5_append_c97b9 49 = .ok (.iload_n 3, 1) := by decide +kernel
theorem dr_cJ5_append_c97b9_50 : decode cJ5_append_c97b9 50 = .ok (.putfield 79, 3) := by decide +kernel
theorem dr_cJ5_append_c97b9_53 : decode cJ5_append_c97b9 53 = .ok (.aload_n 0, 1) := by decide +kernel
theorem dr_cJ5_append_c97b9_54 : decode cJ5_append_c97b9 54 = .ok (.areturn, 1) := by decide +kernel
theorem dr_cJ4_append_bf812_0 : decode cJ4_append_bf812 0 = .ok (.aload_n 0, 1) := by decide +kernel
theorem dr_cJ4_append_bf812_1 : decode cJ4_append_bf812 1 = .ok (.iload_n 1, 1) := by decide +kernel
theorem dr_cJ4_append_bf812_2 : decode cJ4_append_bf812 2 = .ok (.invokespecial 53, 3) := by decide +kernel
theorem wr_8_105 : (Jvm.Cond.methodLink "java/lang/StringBuilder" (53 : Nat) ({ cls := "java/lang/AbstractStringBuilder", name := "append", desc := "(I)Ljava/lang/AbstractStringBuilder;" } : Jvm.MethodName)) ∈ gw := gw_8 105 rfl rfl
theorem wr_8_107 : (Jvm.Cond.code ({ cls := "java/lang/AbstractStringBuilder", name := "append", desc := "(I)Ljava/lang/AbstractStringBuilder;" } : Jvm.MethodName) prog_21_method_32_code (4 : Nat) (Option.some (Jvm.ClassFile.FieldType.object "java/lang/AbstractStringBuilder"))) ∈ gw := gw_8 107 rfl rfl
theorem wr_8_106 : (Jvm.Cond.instanceMethod ({ cls := "java/lang/AbstractStringBuilder", name := "append", desc := "(I)Ljava/lang/AbstractStringBuilder;" } : Jvm.MethodName)) ∈ gw := gw_8 106 rfl rfl
theorem wr_11_224 : (Jvm.Cond.sameMethod "java/lang/AbstractStringBuilder" "java/lang/AbstractStringBuilder" "append" "(I)Ljava/lang/AbstractStringBuilder;") ∈ gw := gw_11 224 rfl rfl
theorem dr_cJ4_append_bf812_5 : decode cJ4_append_bf812 5 = .ok (.pop, 1) := by decide +kernel
theorem dr_cJ4_append_bf812_6 : decode cJ4_append_bf812 6 = .ok (.aload_n 0, 1) := by decide +kernel
theorem dr_cJ4_append_bf812_7 : decode cJ4_append_bf812 7 = .ok (.areturn, 1) := by decide +kernel
theorem dr_cJ9_min_f86c9_0 : decode cJ9_min_f86c9 0 = .ok (.lload_n 0, 1) := by decide +kernel
theorem dr_cJ9_min_f86c9_1 : decode cJ9_min_f86c9 1 = .ok (.lload_n 2, 1) := by decide +kernel
theorem dr_cJ9_min_f86c9_2 : decode cJ9_min_f86c9 2 = .ok (.lcmp, 1) := by decide +kernel
theorem dr_cJ9_min_f86c9_3 : decode cJ9_min_f86c9 3 = .ok (.ifCond .gt 7, 3) := by decide +kernel
theorem dr_cJ9_min_f86c9_10 : decode cJ9_min_f86c9 10 = .ok (.lload_n 2, 1) := by decide +kernel
theorem dr_cJ9_min_f86c9_11 : decode cJ9_min_f86c9 11 = .ok (.lreturn, 1) := by decide +kernel
theorem dr_cJ9_min_f86c9_6 : decode cJ9_min_f86c9 6 = .ok (.lload_n 0, 1) := by decide +kernel
theorem dr_cJ9_min_f86c9_7 : decode cJ9_min_f86c9 7 = .ok (.goto 4, 3) := by decide +kernel
theorem dr_cX14_number_0 : decode cX14_number 0 = .ok (.iload_n 1, 1) := by decide +kernel
theorem dr_cX14_number_1 : decode cX14_number 1 = .ok (.ifCond .eq 13, 3) := by decide +kernel
theorem dr_cX14_number_14 : decode cX14_number 14 = .ok (.lconst 0, 1) := by decide +kernel
theorem dr_cX14_number_15 : decode cX14_number 15 = .ok (.lstore_n 2, 1) := by decide +kernel
theorem dr_cX14_number_16 : decode cX14_number 16 = .ok (.aload_n 0, 1) := by decide +kernel
theorem dr_cX14_number_17 : decode cX14_number 17 = .ok (.getfield 44, 3) := by decide +kernel
theorem wr_9_34 : (Jvm.Cond.fieldLink "SpillForgeModel$Reader" (44 : Nat) "SpillForgeModel$Reader" "at" "I") ∈ gw := gw_9 34 rfl rfl
theorem dr_cX14_number_20 : decode cX14_number 20 = .ok (.aload_n 0, 1) := by decide +kernel
theorem dr_cX14_number_21 : decode cX14_number 21 = .ok (.getfield 32, 3) := by decide +kernel
theorem wr_9_33 : (Jvm.Cond.fieldLink "SpillForgeModel$Reader" (32 : Nat) "SpillForgeModel$Reader" "n" "I") ∈ gw := gw_9 33 rfl rfl
theorem dr_cX14_number_24 : decode cX14_number 24 = .ok (.if_icmp .ge 58, 3) := by decide +kernel
theorem dr_cX14_number_82 : decode cX14_number 82 = .ok (.iload_n 1, 1) := by decide +kernel
theorem dr_cX14_number_83 : decode cX14_number 83 = .ok (.ifCond .eq 6, 3) := by decide +kernel
theorem dr_cX14_number_89 : decode cX14_number 89 = .ok (.aload_n 0, 1) := by decide +kernel
theorem dr_cX14_number_90 : decode cX14_number 90 = .ok (.lload_n 2, 1) := by decide +kernel
theorem dr_cX14_number_91 : decode cX14_number 91 = .ok (.l2i, 1) := by decide +kernel
theorem dr_cX14_number_92 : decode cX14_number 92 = .ok (.putfield 80, 3) := by decide +kernel
theorem wr_9_37 : (Jvm.Cond.fieldLink "SpillForgeModel$Reader" (80 : Nat) "SpillForgeModel$Reader" "value" "I") ∈ gw := gw_9 37 rfl rfl
theorem dr_cX14_number_95 : decode cX14_number 95 = .ok (.aload_n 0, 1) := by decide +kernel
theorem dr_cX14_number_96 : decode cX14_number 96 = .ok (.lload_n 2, 1) := by decide +kernel
theorem dr_cX14_number_97 : decode cX14_number 97 = .ok (.lload_n 2, 1) := by decide +kernel
theorem dr_cX14_number_98 : decode cX14_number 98 = .ok (.l2i, 1) := by decide +kernel
theorem dr_cX14_number_99 : decode cX14_number 99 = .ok (.i2l, 1) := by decide +kernel
theorem dr_cX14_number_100 : decode cX14_number 100 = .ok (.lcmp, 1) := by decide +kernel
theorem dr_cX14_number_101 : decode cX14_number 101 = .ok (.ifCond .ne 7, 3) := by decide +kernel
theorem dr_cX14_number_108 : decode cX14_number 108 = .ok (.bipush 6, 2) := by decide +kernel
theorem dr_cX14_number_110 : decode cX14_number 110 = .ok (.putfield 38, 3) := by decide +kernel
theorem wr_9_35 : (Jvm.Cond.fieldLink "SpillForgeModel$Reader" (38 : Nat) "SpillForgeModel$Reader" "kind" "I") ∈ gw := gw_9 35 rfl rfl
theorem dr_cX14_number_113 : decode cX14_number 113 = .ok (.return_, 1) := by decide +kernel
theorem dr_cX14_number_104 : decode cX14_number 104 = .ok (.iconst 4, 1) := by decide +kernel
theorem dr_cX14_number_105 : decode cX14_number 105 = .ok (.goto 5, 3) := by decide +kernel
theorem dr_cX14_number_27 : decode cX14_number 27 = .ok (.aload_n 0, 1) := by decide +kernel
theorem dr_cX14_number_28 : decode cX14_number 28 = .ok (.getfield 28, 3) := by decide +kernel
theorem wr_9_32 : (Jvm.Cond.fieldLink "SpillForgeModel$Reader" (28 : Nat) "SpillForgeModel$Reader" "t" "[B") ∈ gw := gw_9 32 rfl rfl
theorem dr_cX14_number_31 : decode cX14_number 31 = .ok (.aload_n 0, 1) := by decide +kernel
theorem dr_cX14_number_32 : decode cX14_number 32 = .ok (.getfield 44, 3) := by decide +kernel
theorem dr_cX14_number_35 : decode cX14_number 35 = .ok (.baload, 1) := by decide +kernel
theorem dr_cX14_number_36 : decode cX14_number 36 = .ok (.invokestatic 50, 3) := by decide +kernel
theorem wr_7_215 : (Jvm.Cond.methodLink "SpillForgeModel$Reader" (50 : Nat) ({ cls := "SpillForgeModel$Reader", name := "isDigit", desc := "(I)Z" } : Jvm.MethodName)) ∈ gw := gw_7 215 rfl rfl
theorem wr_1_32 : (Jvm.Cond.initialized "SpillForgeModel$Reader") ∈ gw := gw_1 32 rfl rfl
theorem wr_7_217 : (Jvm.Cond.code ({ cls := "SpillForgeModel$Reader", name := "isDigit", desc := "(I)Z" } : Jvm.MethodName) prog_17_method_2_code (1 : Nat) (Option.some Jvm.ClassFile.FieldType.boolean)) ∈ gw := gw_7 217 rfl rfl
theorem wr_7_216 : (Jvm.Cond.static ({ cls := "SpillForgeModel$Reader", name := "isDigit", desc := "(I)Z" } : Jvm.MethodName)) ∈ gw := gw_7 216 rfl rfl
theorem dr_cX14_number_39 : decode cX14_number 39 = .ok (.ifCond .eq 43, 3) := by decide +kernel
theorem dr_cX14_number_42 : decode cX14_number 42 = .ok (.lload_n 2, 1) := by decide +kernel
theorem dr_cX14_number_43 : decode cX14_number 43 = .ok (.ldc2_w 68, 3) := by decide +kernel
theorem wr_7_225 : (Jvm.Cond.constantLong "SpillForgeModel$Reader" (68 : Nat) (10 : Int64)) ∈ gw := gw_7 225 rfl rfl
theorem dr_cX14_number_46 : decode cX14_number 46 = .ok (.lmul, 1) := by decide +kernel
theorem dr_cX14_number_47 : decode cX14_number 47 = .ok (.aload_n 0, 1) := by decide +kernel
theorem dr_cX14_number_48 : decode cX14_number 48 = .ok (.getfield 28, 3) := by decide +kernel
theorem dr_cX14_number_51 : decode cX14_number 51 = .ok (.aload_n 0, 1) := by decide +kernel
theorem dr_cX14_number_52 : decode cX14_number 52 = .ok (.getfield 44, 3) := by decide +kernel
theorem dr_cX14_number_55 : decode cX14_number 55 = .ok (.baload, 1) := by decide +kernel
theorem dr_cX14_number_56 : decode cX14_number 56 = .ok (.i2l, 1) := by decide +kernel
theorem dr_cX14_number_57 : decode cX14_number 57 = .ok (.ladd, 1) := by decide +kernel
theorem dr_cX14_number_58 : decode cX14_number 58 = .ok (.ldc2_w 70, 3) := by decide +kernel
theorem wr_7_226 : (Jvm.Cond.constantLong "SpillForgeModel$Reader" (70 : Nat) (48 : Int64)) ∈ gw := gw_7 226 rfl rfl
theorem dr_cX14_number_61 : decode cX14_number 61 = .ok (.lsub, 1) := by decide +kernel
theorem dr_cX14_number_62 : decode cX14_number 62 = .ok (.ldc2_w 111, 3) := by decide +kernel
theorem wr_8_218 : (Jvm.Cond.constantLong "SpillForgeModel$Reader" (111 : Nat) (1099511627776 : Int64)) ∈ gw := gw_8 218 rfl rfl
theorem dr_cX14_number_65 : decode cX14_number 65 = .ok (.invokestatic 74, 3) := by decide +kernel
theorem wr_7_228 : (Jvm.Cond.methodLink "SpillForgeModel$Reader" (74 : Nat) ({ cls := "java/lang/Math", name := "min", desc := "(JJ)J" } : Jvm.MethodName)) ∈ gw := gw_7 228 rfl rfl
theorem wr_3_40 : (Jvm.Cond.code ({ cls := "java/lang/Math", name := "min", desc := "(JJ)J" } : Jvm.MethodName) prog_32_method_70_code (4 : Nat) (Option.some Jvm.ClassFile.FieldType.long)) ∈ gw := gw_3 40 rfl rfl
theorem wr_3_39 : (Jvm.Cond.static ({ cls := "java/lang/Math", name := "min", desc := "(JJ)J" } : Jvm.MethodName)) ∈ gw := gw_3 39 rfl rfl
theorem dr_cX14_number_68 : decode cX14_number 68 = .ok (.lstore_n 2, 1) := by decide +kernel
theorem dr_cX14_number_69 : decode cX14_number 69 = .ok (.aload_n 0, 1) := by decide +kernel
theorem dr_cX14_number_70 : decode cX14_number 70 = .ok (.dup, 1) := by decide +kernel
theorem dr_cX14_number_71 : decode cX14_number 71 = .ok (.getfield 44, 3) := by decide +kernel
theorem dr_cX14_number_74 : decode cX14_number 74 = .ok (.iconst 1, 1) := by decide +kernel
theorem dr_cX14_number_75 : decode cX14_number 75 = .ok (.iadd, 1) := by decide +kernel
theorem dr_cX14_number_76 : decode cX14_number 76 = .ok (.putfield 44, 3) := by decide +kernel
theorem dr_cX14_number_79 : decode cX14_number 79 = .ok (.goto (-63), 3) := by decide +kernel
theorem dr_cX14_number_4 : decode cX14_number 4 = .ok (.aload_n 0, 1) := by decide +kernel
theorem dr_cX14_number_5 : decode cX14_number 5 = .ok (.dup, 1) := by decide +kernel
theorem dr_cX14_number_6 : decode cX14_number 6 = .ok (.getfield 44, 3) := by decide +kernel
theorem dr_cX14_number_9 : decode cX14_number 9 = .ok (.iconst 1, 1) := by decide +kernel
theorem dr_cX14_number_10 : decode cX14_number 10 = .ok (.iadd, 1) := by decide +kernel
theorem dr_cX14_number_11 : decode cX14_number 11 = .ok (.putfield 44, 3) := by decide +kernel
theorem dr_cX14_number_86 : decode cX14_number 86 = .ok (.lload_n 2, 1) := by decide +kernel
theorem dr_cX14_number_87 : decode cX14_number 87 = .ok (.lneg, 1) := by decide +kernel
theorem dr_cX14_number_88 : decode cX14_number 88 = .ok (.lstore_n 2, 1) := by decide +kernel
abbrev ky_648821_AbstractStringBuilder_append : gKey := (cJ5_append_c97b9, 4, "java/lang/AbstractStringBuilder", (some (FieldType.object "java/lang/AbstractStringBuilder")), [], "append", fun _ _ => True)
def pp_648821_AbstractStringBuilder_append (D : va_G) (I : FieldType → ClassId) (P648809 : List Nat) (F648810 : Nat → va_E) (q648811 : Nat) (q648812 : Nat) (p648813 : Int32) (p648814 : Int32) (p648815 : Int32) (f648816 : Nat → Int32) (n648817 : Nat) : Option Value → va_W → Nat → Nat → Prop := fun r w dc ds => ∃ (P649418 : List Nat) (F649419 : Nat → va_E) (o649414 : Int32) (q649415 : Nat) (n649416 : Nat) (f649417 : Nat → Int32), r = some (.ref q648811) ∧ w = va_pl P649418 F649419 ∧ rSub P648809 P649418 ∧ rFr [q648811, q648812] P648809 F648810 F649419 ∧ F649419 q648811 = .inr (1, [.ref q649415, .int 0, .int p648814, .int o649414]) ∧ F649419 q649415 = .inl (I .byte, n649416, .inl f649417) ∧ q649415 ∈ P649418 ∧ (q649415 = q648812 ∨ q649415 ∉ P648809) ∧ dc ≤ 1 ∧ ds ≤ 2 * (n649416 - n648817) ∧ gB o649414 1 16777216 ∧ gF f649417 (-128) 127 ∧ p648815.toInt ≤ o649414.toInt ∧ o649414.toInt ≤ p648815.toInt + 11 ∧ o649414.toInt ≤ (n649416 : Int) ∧ (n648817 : Int) ≤ (n649416 : Int) ∧ ((n649416 : Int) ≤ 2 * (n648817 : Int) + 2 ∨ (n649416 : Int) ≤ p648815.toInt + 11)
set_option maxRecDepth 100000 in
set_option maxHeartbeats 4000000 in
theorem cp_648821_AbstractStringBuilder_append (l : Launch) (hl0 : l.stackTraces = false) (D : va_G) (I : FieldType → ClassId) (P648809 : List Nat) (F648810 : Nat → va_E) (q648811 : Nat) (q648812 : Nat) (p648813 : Int32) (p648814 : Int32) (p648815 : Int32) (f648816 : Nat → Int32) (n648817 : Nat) (hmq648811 : q648811 ∈ P648809) (hmq648812 : q648812 ∈ P648809) (heq648811 : F648810 q648811 = .inr (1, [.ref q648812, .int 0, .int p648814, .int p648815])) (heq648812 : F648810 q648812 = .inl (I .byte, n648817, .inl f648816)) (bp648814 : gB p648814 0 1) (bp648815 : gB p648815 0 16777216) (bf648816 : gF f648816 (-128) 127) (x648818 : (n648817 : Int) ≤ 8388608 - 100000) (x648819 : p648815.toInt ≤ (n648817 : Int)) (x648820 : ((n648817 : Int) ≤ 16777216)) : CtA (gV D I) l yJ5_append_c97b9 cJ5_append_c97b9 4 (some (FieldType.object "java/lang/AbstractStringBuilder")) 4 84 1 (4 * n648817 + 64) [.ref q648811, .int p648813] (va_pl P648809 F648810) (pp_648821_AbstractStringBuilder_append D I P648809 F648810 q648811 q648812 p648813 p648814 p648815 f648816 n648817) gNA := by
  refine CtA_ofF hl0 (by decide +kernel) (Nat.le_of_ble_eq_true rfl) ?_
  have bp648813 := gB_any p648813
  refine G_aload_n 0 dr_cJ5_append_c97b9_0 rfl ?_
  refine Gp_get 3 hmq648811 heq648811 dr_cJ5_append_c97b9_1 (gk_J4 D I) (Nat.le_of_ble_eq_true rfl) wr_7_64 rfl ?_
  refine G_istore_n (L' := [(2, .int p648815), (0, .ref q648811), (1, .int p648813)]) dr_cJ5_append_c97b9_4 (Nat.le_of_ble_eq_true rfl) rfl ?_
  refine G_iload_n 0 dr_cJ5_append_c97b9_5 rfl ?_
  refine G_iload_n 2 dr_cJ5_append_c97b9_6 rfl ?_
  refine Gw_callS (As := [.int p648813]) (gV_ok D I) (cp_648825_Integer_stringSize l hl0 D I P648809 F648810 p648813 ) dr_cJ5_append_c97b9_7 ⟨wr_8_108, wr_1_35, wr_8_110, by decide, rfl, (Nat.le_of_ble_eq_true rfl), (Nat.le_of_ble_eq_true rfl)⟩ wr_8_109 (show 0 + 0 ≤ 1 by first | omega | decide) (show 0 + 0 ≤ (4 * n648817 + 64) by first | omega | decide) (Nat.le_of_ble_eq_true rfl) (fun r648956 w648957 dc648953 ds648954 hp648955 => ?_) (fun _ _ _ _ _ z => z.elim)
  obtain ⟨o648958, rfl, rfl, hdc, hds, bo648958, x648959⟩ := hp648955
  change G _ _ _ _ _ _ _ (.int o648958 :: _) _ _ _
  refine G_widen (cs' := 0) (sl' := 0) (by omega) (by omega) ?_
  refine G_iadd dr_cJ5_append_c97b9_10 (G_nam fun z648960 hz648960 => ?_)
  have ez648960 : z648960.toInt = p648815.toInt + o648958.toInt := by rw [gI_add hz648960 bp648815 bo648958 (by decide) (by decide)]
  have bz648960 : gB z648960 1 16777227 := gB_add (gI_add hz648960 bp648815 bo648958 (by decide) (by decide)) bp648815 bo648958 (by decide) (by decide)
  refine G_istore_n (L' := [(3, .int z648960), (2, .int p648815), (0, .ref q648811), (1, .int p648813)]) dr_cJ5_append_c97b9_11 (Nat.le_of_ble_eq_true rfl) rfl ?_
  refine G_aload_n 2 dr_cJ5_append_c97b9_12 rfl ?_
  refine G_iload_n 0 dr_cJ5_append_c97b9_13 rfl ?_
  refine Gw_callVB (As := [.int z648960]) (gV_ok D I) (cp_640133_AbstractStringBuilder_ensureCapacityInternal l hl0 D I P648809 F648810 q648811 q648812 z648960 p648814 p648815 f648816 n648817 hmq648811 hmq648812 heq648811 heq648812 ⟨by omega, by omega⟩ bp648814 bp648815 bf648816 (by have qa0 : Int32.toInt 0 = 0 := (by decide); omega) (by have qa0 : Int32.toInt 0 = 0 := (by decide); omega)) dr_cJ5_append_c97b9_14 ⟨wr_8_0, wr_1_19, wr_8_3, by decide, rfl, (Nat.le_of_ble_eq_true rfl), (Nat.le_of_ble_eq_true rfl)⟩ wr_8_2 wr_s_0 hmq648811 heq648811 rfl (show 0 + 1 ≤ 1 by first | omega | decide) (show 0 + (2 * n648817 + 2 + z648960.toInt.toNat) ≤ (4 * n648817 + 64) by first | omega | decide) (Nat.le_of_ble_eq_true rfl) (fun r648964 w648965 dc648961 ds648962 hp648963 => ?_) (fun _ _ _ _ _ z => z.elim)
  obtain ⟨P648973, F648974, q648966, n648967, f648968, rfl, rfl, hsb648975, hfr648976, he648977, he648978, hm648979, hq648980, hdc, hds, bf648968, x648969, x648970, x648971, x648972⟩ := hp648963
  have hm648981 : q648811 ∈ P648973 := hsb648975 q648811 hmq648811
  have hm648982 : q648812 ∈ P648973 := hsb648975 q648812 hmq648812
  have hor648983 : q648966 = q648812 ∨ q648966 ∉ P648809 := hq648980.elim Or.inl (fun n => Or.inr (fun z => n ((rSub_rf (P := P648809)) _ z)))
  have hsb648984 : rSub P648809 P648973 := rSub_tr (rSub_rf (P := P648809)) hsb648975
  have he648985 : F648974 q648812 = .inl (I .byte, n648817, .inl f648816) := (hfr648976 q648812 hmq648812 (nm_c (rn_ao heq648812 heq648811) nm_n)).trans heq648812
  have hfr648986 : rFr [q648811] P648809 F648810 F648974 := rFr_call (rSub_rf (P := P648809)) (rFr_rf (W := []) (P := P648809) (F := F648810)) hfr648976 (fun b hb hn => ⟨nm_n, (nm_c (fun e => hn (e ▸ List.mem_cons_self)) nm_n)⟩)
  change G _ _ _ _ _ _ _ _ _ _ _
  refine G_widen (cs' := 1) (sl' := 2 * (n648967 - n648817)) (by omega) (by omega) ?_
  refine G_aload_n 2 dr_cJ5_append_c97b9_17 rfl ?_
  refine Gw_callVB (As := []) (gV_ok D I) (cp_640037_AbstractStringBuilder_isLatin1 l hl0 D I P648973 F648974 q648811 q648966 p648814 p648815 f648968 n648967 hm648981 hm648979 he648977 he648978 bp648814 bp648815 bf648968 (by have qa0 : Int32.toInt 0 = 0 := (by decide); omega)) dr_cJ5_append_c97b9_18 ⟨wr_8_29, wr_1_19, wr_8_33, by decide, rfl, (Nat.le_of_ble_eq_true rfl), (Nat.le_of_ble_eq_true rfl)⟩ wr_8_30 wr_8_32 hm648981 he648977 rfl (show 1 + 0 ≤ 1 by first | omega | decide) (show 2 * (n648967 - n648817) + 0 ≤ (4 * n648817 + 64) by first | omega | decide) (Nat.le_of_ble_eq_true rfl) (fun r648990 w648991 dc648987 ds648988 hp648989 => ?_) (fun _ _ _ _ _ z => z.elim)
  obtain ⟨rfl, rfl, hdc, hds⟩ := hp648989
  change G _ _ _ _ _ _ _ (.int 1 :: _) _ _ _
  refine G_widen (cs' := 1) (sl' := 2 * (n648967 - n648817) + 0) (by omega) (by omega) ?_
  refine G_if_eq 37 dr_cJ5_append_c97b9_21 (by decide +kernel) (fun hc => absurd hc (by decide)) (fun _ => ?_)
  refine G_iload_n 3 dr_cJ5_append_c97b9_24 rfl ?_
  refine G_iload_n 0 dr_cJ5_append_c97b9_25 rfl ?_
  refine G_aload_n 2 dr_cJ5_append_c97b9_26 rfl ?_
  refine Gp_get 0 hm648981 he648977 dr_cJ5_append_c97b9_27 (gk_J4 D I) (Nat.le_of_ble_eq_true rfl) wr_7_60 rfl ?_
  refine Gw_callS (As := [.int p648813, .int z648960, .ref q648966]) (gV_ok D I) (cp_649002_Integer_getChars l hl0 D I P648973 F648974 q648966 p648813 z648960 f648968 n648967 hm648979 he648978 ⟨by omega, by omega⟩ bf648968 (by have qa0 : Int32.toInt 0 = 0 := (by decide); omega) (by have q10 : Int32.toInt 10 = 10 := (by decide); have q11 : Int32.toInt 11 = 11 := (by decide); first | exact dgS_up (by omega) (by omega) x648959 (by omega)) (by have qa0 : Int32.toInt 0 = 0 := (by decide); omega)) dr_cJ5_append_c97b9_30 ⟨wr_8_111, wr_1_35, wr_8_113, by decide, rfl, (Nat.le_of_ble_eq_true rfl), (Nat.le_of_ble_eq_true rfl)⟩ wr_8_112 (show 1 + 0 ≤ 1 by first | omega | decide) (show 2 * (n648967 - n648817) + 0 + 0 ≤ (4 * n648817 + 64) by first | omega | decide) (Nat.le_of_ble_eq_true rfl) (fun r649398 w649399 dc649395 ds649396 hp649397 => ?_) (fun _ _ _ _ _ z => z.elim)
  obtain ⟨F649402, o649400, f649401, rfl, rfl, hfr649404, he649405, hdc, hds, bo649400, bf649401⟩ := hp649397
  have he649406 : F649402 q648811 = .inr (1, [.ref q648966, .int 0, .int p648814, .int p648815]) := (hfr649404 q648811 hm648981 (nm_c (rn_oa he648977 he648978) nm_n)).trans he648977
  have hfr649407 : rFr [q648811, q648812] P648809 F648810 F649402 := rFr_call hsb648984 hfr648986 hfr649404 (fun b hb hn => ⟨(nm_c (fun e => hn (e ▸ List.mem_cons_self)) nm_n), (nm_c (fun e => hor648983.elim (fun e2 => hn ((e.trans e2) ▸ (List.mem_cons_of_mem _ List.mem_cons_self))) (fun n => n (e ▸ hb))) nm_n)⟩)
  change G _ _ _ _ _ _ _ (.int o649400 :: _) _ _ _
  refine G_widen (cs' := 1) (sl' := 2 * (n648967 - n648817) + 0 + 0) (by omega) (by omega) ?_
  refine G_pop dr_cJ5_append_c97b9_33 rfl ?_
  refine G_goto 48 dr_cJ5_append_c97b9_34 (by decide +kernel) ?_
  refine G_aload_n 2 dr_cJ5_append_c97b9_48 rfl ?_
  refine G_iload_n 0 dr_cJ5_append_c97b9_49 rfl ?_
  refine Gp_put 3 hm648981 he649406 dr_cJ5_append_c97b9_50 (gk_J4 D I) (Nat.le_of_ble_eq_true rfl) wr_7_64 rfl rfl rfl (Nat.le_of_ble_eq_true rfl) (fun F649408 e649409 n649410 => ?_)
  have he649411 : F649408 q648966 = .inl (I .byte, n648967, .inl f649401) := (n649410 q648966 (rn_ao he649405 he649406)).trans he649405
  have he649412 : F649408 q648811 = .inr (1, [.ref q648966, .int 0, .int p648814, .int z648960]) := e649409
  have hfr649413 : rFr [q648811, q648812] P648809 F648810 F649408 := rFr_put' List.mem_cons_self hfr649407 n649410
  refine G_aload_n 2 dr_cJ5_append_c97b9_53 rfl ?_
  exact G_aretA (FieldType.object "java/lang/AbstractStringBuilder") dr_cJ5_append_c97b9_54 rfl (by first | exact Or.inl ⟨_, rfl⟩ | exact Or.inr ⟨_, rfl⟩) (Or.inr ⟨_, rfl⟩) (Nat.le_of_ble_eq_true rfl) (show 2 * (n648967 - n648817) + 0 + 0 ≤ (4 * n648817 + 64) by omega) ⟨P648973, F649408, z648960, q648966, n648967, f649401, rfl, rfl, hsb648984, hfr649413, he649412, he649411, hm648979, hor648983, (Nat.le_of_ble_eq_true rfl), (by omega), ⟨by omega, by omega⟩, bf649401, (by have qa0 : Int32.toInt 0 = 0 := (by decide); omega), (by have qa0 : Int32.toInt 0 = 0 := (by decide); omega), (by have qa0 : Int32.toInt 0 = 0 := (by decide); omega), (by have qa0 : Int32.toInt 0 = 0 := (by decide); omega), (by have qa0 : Int32.toInt 0 = 0 := (by decide); omega)⟩
abbrev ky_648808_StringBuilder_append : gKey := (cJ4_append_bf812, 2, "java/lang/StringBuilder", (some (FieldType.object "java/lang/StringBuilder")), [], "append", fun _ _ => True)
def pp_648808_StringBuilder_append (D : va_G) (I : FieldType → ClassId) (P648796 : List Nat) (F648797 : Nat → va_E) (q648798 : Nat) (q648799 : Nat) (p648800 : Int32) (p648801 : Int32) (p648802 : Int32) (f648803 : Nat → Int32) (n648804 : Nat) : Option Value → va_W → Nat → Nat → Prop := fun r w dc ds => ∃ (P649451 : List Nat) (F649452 : Nat → va_E) (o649447 : Int32) (q649448 : Nat) (n649449 : Nat) (f649450 : Nat → Int32), r = some (.ref q648798) ∧ w = va_pl P649451 F649452 ∧ rSub P648796 P649451 ∧ rFr [q648798, q648799] P648796 F648797 F649452 ∧ F649452 q648798 = .inr (1, [.ref q649448, .int 0, .int p648801, .int o649447]) ∧ F649452 q649448 = .inl (I .byte, n649449, .inl f649450) ∧ q649448 ∈ P649451 ∧ (q649448 = q648799 ∨ q649448 ∉ P648796) ∧ dc ≤ 1 ∧ ds ≤ 2 * (n649449 - n648804) ∧ gB o649447 1 16777216 ∧ gF f649450 (-128) 127 ∧ p648802.toInt ≤ o649447.toInt ∧ o649447.toInt ≤ p648802.toInt + 11 ∧ o649447.toInt ≤ (n649449 : Int) ∧ (n648804 : Int) ≤ (n649449 : Int) ∧ ((n649449 : Int) ≤ 2 * (n648804 : Int) + 2 ∨ (n649449 : Int) ≤ p648802.toInt + 11)
set_option maxRecDepth 100000 in
set_option maxHeartbeats 4000000 in
theorem cp_648808_StringBuilder_append (l : Launch) (hl0 : l.stackTraces = false) (D : va_G) (I : FieldType → ClassId) (P648796 : List Nat) (F648797 : Nat → va_E) (q648798 : Nat) (q648799 : Nat) (p648800 : Int32) (p648801 : Int32) (p648802 : Int32) (f648803 : Nat → Int32) (n648804 : Nat) (hmq648798 : q648798 ∈ P648796) (hmq648799 : q648799 ∈ P648796) (heq648798 : F648797 q648798 = .inr (1, [.ref q648799, .int 0, .int p648801, .int p648802])) (heq648799 : F648797 q648799 = .inl (I .byte, n648804, .inl f648803)) (bp648801 : gB p648801 0 1) (bp648802 : gB p648802 0 16777216) (bf648803 : gF f648803 (-128) 127) (x648805 : (n648804 : Int) ≤ 8388608 - 100000) (x648806 : p648802.toInt ≤ (n648804 : Int)) (x648807 : ((n648804 : Int) ≤ 16777216)) : CtA (gV D I) l yJ4_append_bf812 cJ4_append_bf812 2 (some (FieldType.object "java/lang/StringBuilder")) 5 107 1 (4 * n648804 + 64) [.ref q648798, .int p648800] (va_pl P648796 F648797) (pp_648808_StringBuilder_append D I P648796 F648797 q648798 q648799 p648800 p648801 p648802 f648803 n648804) gNA := by
  refine CtA_ofF hl0 (by decide +kernel) (Nat.le_of_ble_eq_true rfl) ?_
  have bp648800 := gB_any p648800
  refine G_aload_n 0 dr_cJ4_append_bf812_0 rfl ?_
  refine G_iload_n 1 dr_cJ4_append_bf812_1 rfl ?_
  refine Gw_callSU (As := [.int p648800]) (gV_ok D I) (cp_648821_AbstractStringBuilder_append l hl0 D I P648796 F648797 q648798 q648799 p648800 p648801 p648802 f648803 n648804 hmq648798 hmq648799 heq648798 heq648799 bp648801 bp648802 bf648803 (by have qa0 : Int32.toInt 0 = 0 := (by decide); omega) (by have qa0 : Int32.toInt 0 = 0 := (by decide); omega) (by have qa0 : Int32.toInt 0 = 0 := (by decide); omega)) dr_cJ4_append_bf812_2 ⟨wr_8_105, wr_1_19, wr_8_107, by decide, rfl, (Nat.le_of_ble_eq_true rfl), (Nat.le_of_ble_eq_true rfl)⟩ wr_8_106 wr_11_224 wr_7_73 wr_7_44 (by decide) hmq648798 heq648798 rfl (show 0 + 1 ≤ 1 by first | omega | decide) (show 0 + (4 * n648804 + 64) ≤ (4 * n648804 + 64) by first | omega | decide) (Nat.le_of_ble_eq_true rfl) (fun r649423 w649424 dc649420 ds649421 hp649422 => ?_)
  obtain ⟨P649434, F649435, o649425, q649426, n649427, f649428, rfl, rfl, hsb649436, hfr649437, he649438, he649439, hm649440, hq649441, hdc, hds, bo649425, bf649428, x649429, x649430, x649431, x649432, x649433⟩ := hp649422
  have hm649442 : q648798 ∈ P649434 := hsb649436 q648798 hmq648798
  have hm649443 : q648799 ∈ P649434 := hsb649436 q648799 hmq648799
  have hor649444 : q649426 = q648799 ∨ q649426 ∉ P648796 := hq649441.elim Or.inl (fun n => Or.inr (fun z => n ((rSub_rf (P := P648796)) _ z)))
  have hsb649445 : rSub P648796 P649434 := rSub_tr (rSub_rf (P := P648796)) hsb649436
  have hfr649446 : rFr [q648798, q648799] P648796 F648797 F649435 := rFr_call (rSub_rf (P := P648796)) (rFr_rf (W := []) (P := P648796) (F := F648797)) hfr649437 (fun b hb hn => ⟨nm_n, (nm_c (fun e => hn (e ▸ List.mem_cons_self)) (nm_c (fun e => hn (e ▸ (List.mem_cons_of_mem _ List.mem_cons_self))) nm_n))⟩)
  change G _ _ _ _ _ _ _ (.ref q648798 :: _) _ _ _
  refine G_widen (cs' := 1) (sl' := 2 * (n649427 - n648804)) (by omega) (by omega) ?_
  refine G_pop dr_cJ4_append_bf812_5 rfl ?_
  refine G_aload_n 0 dr_cJ4_append_bf812_6 rfl ?_
  exact G_aretA (FieldType.object "java/lang/StringBuilder") dr_cJ4_append_bf812_7 rfl (by first | exact Or.inl ⟨_, rfl⟩ | exact Or.inr ⟨_, rfl⟩) (Or.inr ⟨_, rfl⟩) (Nat.le_of_ble_eq_true rfl) (show 2 * (n649427 - n648804) ≤ (4 * n648804 + 64) by omega) ⟨P649434, F649435, o649425, q649426, n649427, f649428, rfl, rfl, hsb649445, hfr649446, he649438, he649439, hm649440, hor649444, (Nat.le_of_ble_eq_true rfl), (by omega), bo649425, bf649428, (by have qa0 : Int32.toInt 0 = 0 := (by decide); omega), (by have qa0 : Int32.toInt 0 = 0 := (by decide); omega), (by have qa0 : Int32.toInt 0 = 0 := (by decide); omega), (by have qa0 : Int32.toInt 0 = 0 := (by decide); omega), (by have qa0 : Int32.toInt 0 = 0 := (by decide); omega)⟩
abbrev ky_649513_Reader_isDigit : gKey := (cX14_isDigit, 1, "SpillForgeModel$Reader", (some FieldType.boolean), [], "isDigit", fun _ _ => True)
def pp_649513_Reader_isDigit (D : va_G) (I : FieldType → ClassId) (P649510 : List Nat) (F649511 : Nat → va_E) (p649512 : Int32) : Option Value → va_W → Nat → Nat → Prop := fun r w dc ds => ∃ (o649520 : Int32), r = some (.int o649520) ∧ w = va_pl P649510 F649511 ∧ dc ≤ 0 ∧ ds ≤ 0 ∧ gB o649520 0 1 ∧ isP p649512 48 57 o649520
set_option maxRecDepth 100000 in
set_option maxHeartbeats 4000000 in
theorem cp_649513_Reader_isDigit (l : Launch) (hl0 : l.stackTraces = false) (D : va_G) (I : FieldType → ClassId) (P649510 : List Nat) (F649511 : Nat → va_E) (p649512 : Int32)  : CtA (gV D I) l yX14_isDigit cX14_isDigit 1 (some FieldType.boolean) 0 0 0 0 [.int p649512] (va_pl P649510 F649511) (pp_649513_Reader_isDigit D I P649510 F649511 p649512) gNA := by
  refine CtA_of hl0 (by decide) (Nat.le_of_ble_eq_true rfl) ?_
  have bp649512 := gB_any p649512
  refine G_iload_n 0 dr_cX14_isDigit_0 rfl ?_
  refine G_bipush 48 dr_cX14_isDigit_1 (by decide +kernel) ?_
  refine G_icmp_lt 16 dr_cX14_isDigit_3 (by decide +kernel) (fun hc649514 => ?_) (fun hc649514 => ?_)
  · have r649515 : p649512.toInt < 48 := gj_lt hc649514 (show Int32.toInt 48 = 48 by decide)
    have bp649512' : gB p649512 (-2147483648) 47 := ⟨by omega, by omega⟩
    refine G_iconst 0 dr_cX14_isDigit_16 (by decide +kernel) ?_
    exact G_zretA FieldType.boolean dr_cX14_isDigit_17 rfl rfl (Nat.le_of_ble_eq_true rfl) (Nat.le_of_ble_eq_true rfl) ⟨0, rfl, rfl, (Nat.le_of_ble_eq_true rfl), (Nat.le_of_ble_eq_true rfl), (gB_w (gBl (show Int32.toInt 0 = 0 by decide)) (by decide) (by decide)), (isP_n (by omega))⟩
  · have r649516 : 48 ≤ p649512.toInt := gj_nlt hc649514 (show Int32.toInt 48 = 48 by decide)
    have bp649512' : gB p649512 48 2147483647 := ⟨by omega, by omega⟩
    refine G_iload_n 0 dr_cX14_isDigit_6 rfl ?_
    refine G_bipush 57 dr_cX14_isDigit_7 (by decide +kernel) ?_
    refine G_icmp_gt 16 dr_cX14_isDigit_9 (by decide +kernel) (fun hc649517 => ?_) (fun hc649517 => ?_)
    · have r649518 : 57 < p649512.toInt := gj_ltL hc649517 (show Int32.toInt 57 = 57 by decide)
      have bp649512'' : gB p649512 58 2147483647 := ⟨by omega, by omega⟩
      refine G_iconst 0 dr_cX14_isDigit_16 (by decide +kernel) ?_
      exact G_zretA FieldType.boolean dr_cX14_isDigit_17 rfl rfl (Nat.le_of_ble_eq_true rfl) (Nat.le_of_ble_eq_true rfl) ⟨0, rfl, rfl, (Nat.le_of_ble_eq_true rfl), (Nat.le_of_ble_eq_true rfl), (gB_w (gBl (show Int32.toInt 0 = 0 by decide)) (by decide) (by decide)), (isP_n (by omega))⟩
    · have r649519 : p649512.toInt ≤ 57 := gj_nltL hc649517 (show Int32.toInt 57 = 57 by decide)
      have bp649512'' : gB p649512 48 57 := ⟨by omega, by omega⟩
      refine G_iconst 1 dr_cX14_isDigit_12 (by decide +kernel) ?_
      refine G_goto 17 dr_cX14_isDigit_13 (by decide +kernel) ?_
      exact G_zretA FieldType.boolean dr_cX14_isDigit_17 rfl rfl (Nat.le_of_ble_eq_true rfl) (Nat.le_of_ble_eq_true rfl) ⟨1, rfl, rfl, (Nat.le_of_ble_eq_true rfl), (Nat.le_of_ble_eq_true rfl), (gB_w (gBl (show Int32.toInt 1 = 1 by decide)) (by decide) (by decide)), (isP_y (by omega) (by omega))⟩
abbrev ky_649566_Math_min : gKey := (cJ9_min_f86c9, 4, "java/lang/Math", (some FieldType.long), [], "min", fun _ _ => True)
def pp_649566_Math_min (D : va_G) (I : FieldType → ClassId) (P649562 : List Nat) (F649563 : Nat → va_E) (pl649564 : Int64) (pl649565 : Int64) : Option Value → va_W → Nat → Nat → Prop := fun r w dc ds => ∃ (ol649571 : Int64), r = some (.long ol649571) ∧ w = va_pl P649562 F649563 ∧ dc ≤ 0 ∧ ds ≤ 0 ∧ lmP pl649564 pl649565 ol649571
set_option maxRecDepth 100000 in
set_option maxHeartbeats 4000000 in
theorem cp_649566_Math_min (l : Launch) (hl0 : l.stackTraces = false) (D : va_G) (I : FieldType → ClassId) (P649562 : List Nat) (F649563 : Nat → va_E) (pl649564 : Int64) (pl649565 : Int64)  : CtA (gV D I) l yJ9_min_f86c9 cJ9_min_f86c9 4 (some FieldType.long) 0 0 0 0 [.long pl649564, .long pl649565] (va_pl P649562 F649563) (pp_649566_Math_min D I P649562 F649563 pl649564 pl649565) gNA := by
  refine CtA_ofF hl0 (by decide +kernel) (Nat.le_of_ble_eq_true rfl) ?_
  refine G_lload_n 0 dr_cJ9_min_f86c9_0 rfl ?_
  refine G_lload_n 1 dr_cJ9_min_f86c9_1 rfl ?_
  refine G_lcmp dr_cJ9_min_f86c9_2 (G_nam fun z649567 hz649567 => ?_)
  have bz649567 : gB z649567 (-1) 1 := gB_cmp hz649567
  refine G_if_gt 10 dr_cJ9_min_f86c9_3 (by decide +kernel) (fun hc649568 => ?_) (fun hc649568 => ?_)
  · have r649569 : 0 < z649567.toInt := gj_ltL hc649568 (show Int32.toInt 0 = 0 by decide)
    have bz649567' : gB z649567 1 1 := ⟨by omega, by omega⟩
    have lhc649568 := gC_cmpS hz649567 (by omega)
    refine G_lload_n 1 dr_cJ9_min_f86c9_10 rfl ?_
    exact G_lretA dr_cJ9_min_f86c9_11 rfl (Nat.le_of_ble_eq_true rfl) (Nat.le_of_ble_eq_true rfl) ⟨pl649565, rfl, rfl, (Nat.le_of_ble_eq_true rfl), (Nat.le_of_ble_eq_true rfl), (by first | exact lm_r | exact lm_l (by assumption) (by omega))⟩
  · have r649570 : z649567.toInt ≤ 0 := gj_nltL hc649568 (show Int32.toInt 0 = 0 by decide)
    have bz649567' : gB z649567 (-1) 0 := ⟨by omega, by omega⟩
    refine G_lload_n 0 dr_cJ9_min_f86c9_6 rfl ?_
    refine G_goto 11 dr_cJ9_min_f86c9_7 (by decide +kernel) ?_
    exact G_lretA dr_cJ9_min_f86c9_11 rfl (Nat.le_of_ble_eq_true rfl) (Nat.le_of_ble_eq_true rfl) ⟨pl649564, rfl, rfl, (Nat.le_of_ble_eq_true rfl), (Nat.le_of_ble_eq_true rfl), (by first | exact lm_r | exact lm_l (by assumption) (by omega))⟩
abbrev ky_649477_Reader_number : gKey := (cX14_number, 4, "SpillForgeModel$Reader", none, [], "number", fun _ _ => True)
def pp_649477_Reader_number (D : va_G) (I : FieldType → ClassId) (P649453 : List Nat) (F649454 : Nat → va_E) (q649455 : Nat) (q649456 : Nat) (p649457 : Int32) (p649458 : Int32) (p649459 : Int32) (p649460 : Int32) (p649461 : Int32) (p649462 : Int32) (p649463 : Int32) (qo649464 : Nat) (p649465 : Int32) (p649466 : Int32) (p649467 : Int32) (qo649468 : Nat) (qo649469 : Nat) (p649470 : Int32) (f649471 : Nat → Int32) : Option Value → va_W → Nat → Nat → Prop := fun r w dc ds => ∃ (F650059 : Nat → va_E) (o650055 : Int32) (o650056 : Int32) (o650057 : Int32), r = none ∧ w = va_pl P649453 F650059 ∧ rFr [q649455] P649453 F649454 F650059 ∧ F650059 q649455 = .inr (19, [.ref q649456, .int p649458, .int o650055, .int o650056, .int p649461, .int o650057, .int p649463, .ref qo649464, .int p649465, .int p649466, .int p649467, .ref qo649468, .ref qo649469, .int p649470]) ∧ F650059 q649456 = .inl (I .byte, 8192, .inl f649471) ∧ dc ≤ (16 * (o650055.toInt - p649459.toInt)).toNat ∧ ds ≤ (160 * (o650055.toInt - p649459.toInt)).toNat ∧ gB o650055 0 8192 ∧ gB o650056 4 6 ∧ p649459.toInt < o650055.toInt ∧ o650055.toInt ≤ p649458.toInt ∧ tP I P649453 F650059 o650056 qo649464 qo649469 qo649468 ∧ vP o650056 o650057
set_option maxRecDepth 100000 in
set_option maxHeartbeats 4000000 in
theorem cp_649477_Reader_number (l : Launch) (hl0 : l.stackTraces = false) (D : va_G) (I : FieldType → ClassId) (P649453 : List Nat) (F649454 : Nat → va_E) (q649455 : Nat) (q649456 : Nat) (p649457 : Int32) (p649458 : Int32) (p649459 : Int32) (p649460 : Int32) (p649461 : Int32) (p649462 : Int32) (p649463 : Int32) (qo649464 : Nat) (p649465 : Int32) (p649466 : Int32) (p649467 : Int32) (qo649468 : Nat) (qo649469 : Nat) (p649470 : Int32) (f649471 : Nat → Int32) (hmq649455 : q649455 ∈ P649453) (hmq649456 : q649456 ∈ P649453) (heq649455 : F649454 q649455 = .inr (19, [.ref q649456, .int p649458, .int p649459, .int p649460, .int p649461, .int p649462, .int p649463, .ref qo649464, .int p649465, .int p649466, .int p649467, .ref qo649468, .ref qo649469, .int p649470])) (heq649456 : F649454 q649456 = .inl (I .byte, 8192, .inl f649471)) (bp649457 : gB p649457 0 1) (bp649458 : gB p649458 0 8192) (bp649459 : gB p649459 0 8192) (bp649460 : gB p649460 0 6) (bp649461 : gB p649461 0 8192) (bp649463 : gB p649463 0 6) (bp649465 : gB p649465 (-1) 8192) (bp649466 : gB p649466 0 4) (bp649467 : gB p649467 0 1000000) (bp649470 : gB p649470 0 1000000) (bf649471 : gF f649471 (-128) 127) (x649472 : p649459.toInt ≤ p649458.toInt) (x649473 : p649459.toInt < p649458.toInt) (x649474 : cDg f649471 p649459 p649457) (x649475 : qo649469 ∈ P649453) (x649476 : qo649468 ∈ P649453) : CtA (gV D I) l yX14_number cX14_number 4 none 1 23 ((16 * (p649458.toInt - p649459.toInt)).toNat) ((160 * (p649458.toInt - p649459.toInt)).toNat) [.ref q649455, .int p649457] (va_pl P649453 F649454) (pp_649477_Reader_number D I P649453 F649454 q649455 q649456 p649457 p649458 p649459 p649460 p649461 p649462 p649463 qo649464 p649465 p649466 p649467 qo649468 qo649469 p649470 f649471) gNA := by
  refine CtA_of hl0 (by decide) (Nat.le_of_ble_eq_true rfl) ?_
  have bp649462 := gB_any p649462
  refine G_iload_n 1 dr_cX14_number_0 rfl ?_
  refine G_if_eq 14 dr_cX14_number_1 (by decide +kernel) (fun hc649478 => ?_) (fun hc649478 => ?_)
  · have r649479 : p649457.toInt = 0 := gj_eq hc649478 (show Int32.toInt 0 = 0 by decide)
    have bp649457' : gB p649457 0 0 := ⟨by omega, by omega⟩
    refine G_lconst 0 dr_cX14_number_14 rfl ?_
    refine G_lstore_n (L' := [(2, .long 0), (0, .ref q649455), (1, .int p649457)]) dr_cX14_number_15 (Nat.le_of_ble_eq_true rfl) rfl ?_
    have hlp16_649685 : ∀ (n16_649685 : Nat) (F649679 : Nat → va_E) (gl649677 : Int64) (g649678 : Int32), gB g649678 0 8192 → rFr [q649455] P649453 F649454 F649679 → F649679 q649455 = .inr (19, [.ref q649456, .int p649458, .int g649678, .int p649460, .int p649461, .int p649462, .int p649463, .ref qo649464, .int p649465, .int p649466, .int p649467, .ref qo649468, .ref qo649469, .int p649470]) → F649679 q649456 = .inl (I .byte, 8192, .inl f649471) → p649459.toInt ≤ g649678.toInt → g649678.toInt ≤ p649458.toInt → (p649457.toInt = 0 ∨ p649459.toInt < g649678.toInt) → ((8193 : Int) - g649678.toInt).toNat < n16_649685 → G (gV D I) l (gRm 1 23 ((16 * (p649458.toInt - p649459.toInt)).toNat) ((160 * (p649458.toInt - p649459.toInt)).toNat)) (gMA (gV D I) (pp_649477_Reader_number D I P649453 F649454 q649455 q649456 p649457 p649458 p649459 p649460 p649461 p649462 p649463 qo649464 p649465 p649466 p649467 qo649468 qo649469 p649470 f649471) gNA ((16 * (p649458.toInt - p649459.toInt)).toNat) ((160 * (p649458.toInt - p649459.toInt)).toNat)) ky_649477_Reader_number 16 [(2, .long gl649677), (0, .ref q649455), (1, .int p649457)] [] (va_pl P649453 F649679) 0 0 := by
      intro n16_649685
      induction n16_649685 with
      | zero => intro F649679 gl649677 g649678 bg649678 hfr649682 he649680 he649681 x649683 x649684 x649685 hm16_649685; exact absurd hm16_649685 (Nat.not_lt_zero _)
      | succ n16_649685 ih16_649685 =>
        intro F649679 gl649677 g649678 bg649678 hfr649682 he649680 he649681 x649683 x649684 x649685 hm16_649685
        refine G_aload_n 1 dr_cX14_number_16 rfl ?_
        refine Gp_get 2 hmq649455 he649680 dr_cX14_number_17 (gk_X14 D I) (Nat.le_of_ble_eq_true rfl) wr_9_34 rfl ?_
        refine G_aload_n 1 dr_cX14_number_20 rfl ?_
        refine Gp_get 1 hmq649455 he649680 dr_cX14_number_21 (gk_X14 D I) (Nat.le_of_ble_eq_true rfl) wr_9_33 rfl ?_
        refine G_icmp_ge 82 dr_cX14_number_24 (by decide +kernel) (fun hc649686 => ?_) (fun hc649686 => ?_)
        · have r649687 : p649458.toInt ≤ g649678.toInt := gC_le hc649686
          have x649688 : p649459.toInt < g649678.toInt := by first | omega | exact cDg_lt x649474 (by omega) (by assumption) (isP_0 (by assumption) (by omega)) (by omega)
          refine G_iload_n 2 dr_cX14_number_82 rfl ?_
          refine G_if_eq 89 dr_cX14_number_83 (by decide +kernel) (fun _ => ?_) (fun hc => absurd (show False by have := gj_neq hc (show Int32.toInt 0 = 0 by decide); omega) not_false)
          refine G_aload_n 1 dr_cX14_number_89 rfl ?_
          refine G_lload_n 0 dr_cX14_number_90 rfl ?_
          refine G_l2i dr_cX14_number_91 (G_nam fun z649689 hz649689 => ?_)
          have bz649689 : gB z649689 (-2147483648) 2147483647 := gB_any z649689
          refine Gp_put 5 hmq649455 he649680 dr_cX14_number_92 (gk_X14 D I) (Nat.le_of_ble_eq_true rfl) wr_9_37 rfl rfl rfl (Nat.le_of_ble_eq_true rfl) (fun F649690 e649691 n649692 => ?_)
          have he649693 : F649690 q649456 = .inl (I .byte, 8192, .inl f649471) := (n649692 q649456 (rn_ao he649681 he649680)).trans he649681
          have he649694 : F649690 q649455 = .inr (19, [.ref q649456, .int p649458, .int g649678, .int p649460, .int p649461, .int z649689, .int p649463, .ref qo649464, .int p649465, .int p649466, .int p649467, .ref qo649468, .ref qo649469, .int p649470]) := e649691
          have hfr649695 : rFr [q649455] P649453 F649454 F649690 := rFr_put' List.mem_cons_self hfr649682 n649692
          refine G_aload_n 1 dr_cX14_number_95 rfl ?_
          refine G_lload_n 0 dr_cX14_number_96 rfl ?_
          refine G_lload_n 0 dr_cX14_number_97 rfl ?_
          refine G_l2i dr_cX14_number_98 (G_nam fun z649696 hz649696 => ?_)
          have bz649696 : gB z649696 (-2147483648) 2147483647 := gB_any z649696
          refine G_i2l dr_cX14_number_99 (G_namL fun u649697 hu649697 => ?_)
          refine G_lcmp dr_cX14_number_100 (G_nam fun z649698 hz649698 => ?_)
          have bz649698 : gB z649698 (-1) 1 := gB_cmp hz649698
          refine G_if_ne 108 dr_cX14_number_101 (by decide +kernel) (fun hc649699 => ?_) (fun hc649699 => ?_)
          · have r649700 : z649698.toInt ≠ 0 := gj_neq hc649699 (show Int32.toInt 0 = 0 by decide)
            have lhc649699 := gC_cmpN hz649698 hc649699
            refine G_bipush 6 dr_cX14_number_108 (by decide +kernel) ?_
            refine Gp_put 3 hmq649455 he649694 dr_cX14_number_110 (gk_X14 D I) (Nat.le_of_ble_eq_true rfl) wr_9_35 rfl rfl rfl (Nat.le_of_ble_eq_true rfl) (fun F649701 e649702 n649703 => ?_)
            have he649704 : F649701 q649456 = .inl (I .byte, 8192, .inl f649471) := (n649703 q649456 (rn_ao he649693 he649694)).trans he649693
            have he649705 : F649701 q649455 = .inr (19, [.ref q649456, .int p649458, .int g649678, .int 6, .int p649461, .int z649689, .int p649463, .ref qo649464, .int p649465, .int p649466, .int p649467, .ref qo649468, .ref qo649469, .int p649470]) := e649702
            have hfr649706 : rFr [q649455] P649453 F649454 F649701 := rFr_put' List.mem_cons_self hfr649695 n649703
            exact G_vretA dr_cX14_number_113 rfl (show 0 ≤ ((16 * (p649458.toInt - p649459.toInt)).toNat) by omega) (show 0 ≤ ((160 * (p649458.toInt - p649459.toInt)).toNat) by omega) ⟨F649701, g649678, 6, z649689, rfl, rfl, hfr649706, he649705, he649704, (by omega), (by omega), bg649678, (gB_w (gBl (show Int32.toInt 6 = 6 by decide)) (by decide) (by decide)), (by have qa0 : Int32.toInt 6 = 6 := (by decide); omega), (by have qa0 : Int32.toInt 6 = 6 := (by decide); omega), (tP_no (by decide) (by decide)), (vP_no (by decide) (by decide))⟩
          · have r649707 : z649698.toInt = 0 := gj_eq hc649699 (show Int32.toInt 0 = 0 by decide)
            have bz649698' : gB z649698 0 0 := ⟨by omega, by omega⟩
            have lhc649699 := gC_cmpE hz649698 hc649699
            refine G_iconst 4 dr_cX14_number_104 (by decide +kernel) ?_
            refine G_goto 110 dr_cX14_number_105 (by decide +kernel) ?_
            refine Gp_put 3 hmq649455 he649694 dr_cX14_number_110 (gk_X14 D I) (Nat.le_of_ble_eq_true rfl) wr_9_35 rfl rfl rfl (Nat.le_of_ble_eq_true rfl) (fun F649708 e649709 n649710 => ?_)
            have he649711 : F649708 q649456 = .inl (I .byte, 8192, .inl f649471) := (n649710 q649456 (rn_ao he649693 he649694)).trans he649693
            have he649712 : F649708 q649455 = .inr (19, [.ref q649456, .int p649458, .int g649678, .int 4, .int p649461, .int z649689, .int p649463, .ref qo649464, .int p649465, .int p649466, .int p649467, .ref qo649468, .ref qo649469, .int p649470]) := e649709
            have hfr649713 : rFr [q649455] P649453 F649454 F649708 := rFr_put' List.mem_cons_self hfr649695 n649710
            exact G_vretA dr_cX14_number_113 rfl (show 0 ≤ ((16 * (p649458.toInt - p649459.toInt)).toNat) by omega) (show 0 ≤ ((160 * (p649458.toInt - p649459.toInt)).toNat) by omega) ⟨F649708, g649678, 4, z649689, rfl, rfl, hfr649713, he649712, he649711, (by omega), (by omega), bg649678, (gB_w (gBl (show Int32.toInt 4 = 4 by decide)) (by decide) (by decide)), (by have qa0 : Int32.toInt 4 = 4 := (by decide); omega), (by have qa0 : Int32.toInt 4 = 4 := (by decide); omega), (tP_no (by decide) (by decide)), (vP_no (by decide) (by decide))⟩
        · have r649714 : g649678.toInt < p649458.toInt := gC_nle hc649686
          have bg649678' : gB g649678 0 8191 := ⟨by omega, by omega⟩
          have bp649458' : gB p649458 1 8192 := ⟨by omega, by omega⟩
          refine G_aload_n 1 dr_cX14_number_27 rfl ?_
          refine Gp_get 0 hmq649455 he649680 dr_cX14_number_28 (gk_X14 D I) (Nat.le_of_ble_eq_true rfl) wr_9_32 rfl ?_
          refine G_aload_n 1 dr_cX14_number_31 rfl ?_
          refine Gp_get 2 hmq649455 he649680 dr_cX14_number_32 (gk_X14 D I) (Nat.le_of_ble_eq_true rfl) wr_9_34 rfl ?_
          refine Gp_bald 1 hmq649456 he649681 dr_cX14_number_35 rfl (gB_in bg649678' (by decide) (by decide)) (G_nam fun z649715 hz649715 => ?_)
          have bz649715 : gB z649715 (-128) 127 := by rw [hz649715]; exact bf649471 _
          refine Gw_callS (As := [.int z649715]) (gV_ok D I) (cp_649513_Reader_isDigit l hl0 D I P649453 F649679 z649715 ) dr_cX14_number_36 ⟨wr_7_215, wr_1_32, wr_7_217, by decide, rfl, (Nat.le_of_ble_eq_true rfl), (Nat.le_of_ble_eq_true rfl)⟩ wr_7_216 (show 0 + 0 ≤ ((16 * (p649458.toInt - p649459.toInt)).toNat) by first | omega | decide) (show 0 + 0 ≤ ((160 * (p649458.toInt - p649459.toInt)).toNat) by first | omega | decide) (Nat.le_of_ble_eq_true rfl) (fun r649719 w649720 dc649716 ds649717 hp649718 => ?_) (fun _ _ _ _ _ z => z.elim)
          obtain ⟨o649721, rfl, rfl, hdc, hds, bo649721, x649722⟩ := hp649718
          change G _ _ _ _ _ _ _ (.int o649721 :: _) _ _ _
          refine G_widen (cs' := 0) (sl' := 0) (by omega) (by omega) ?_
          refine G_if_eq 82 dr_cX14_number_39 (by decide +kernel) (fun hc649723 => ?_) (fun hc649723 => ?_)
          · have r649724 : o649721.toInt = 0 := gj_eq hc649723 (show Int32.toInt 0 = 0 by decide)
            have bo649721' : gB o649721 0 0 := ⟨by omega, by omega⟩
            have x649725 : p649459.toInt < g649678.toInt := by first | omega | exact cDg_lt x649474 (by omega) (by assumption) (isP_0 (by assumption) (by omega)) (by omega)
            refine G_iload_n 2 dr_cX14_number_82 rfl ?_
            refine G_if_eq 89 dr_cX14_number_83 (by decide +kernel) (fun _ => ?_) (fun hc => absurd (show False by have := gj_neq hc (show Int32.toInt 0 = 0 by decide); omega) not_false)
            refine G_aload_n 1 dr_cX14_number_89 rfl ?_
            refine G_lload_n 0 dr_cX14_number_90 rfl ?_
            refine G_l2i dr_cX14_number_91 (G_nam fun z649726 hz649726 => ?_)
            have bz649726 : gB z649726 (-2147483648) 2147483647 := gB_any z649726
            refine Gp_put 5 hmq649455 he649680 dr_cX14_number_92 (gk_X14 D I) (Nat.le_of_ble_eq_true rfl) wr_9_37 rfl rfl rfl (Nat.le_of_ble_eq_true rfl) (fun F649727 e649728 n649729 => ?_)
            have he649730 : F649727 q649456 = .inl (I .byte, 8192, .inl f649471) := (n649729 q649456 (rn_ao he649681 he649680)).trans he649681
            have he649731 : F649727 q649455 = .inr (19, [.ref q649456, .int p649458, .int g649678, .int p649460, .int p649461, .int z649726, .int p649463, .ref qo649464, .int p649465, .int p649466, .int p649467, .ref qo649468, .ref qo649469, .int p649470]) := e649728
            have hfr649732 : rFr [q649455] P649453 F649454 F649727 := rFr_put' List.mem_cons_self hfr649682 n649729
            refine G_aload_n 1 dr_cX14_number_95 rfl ?_
            refine G_lload_n 0 dr_cX14_number_96 rfl ?_
            refine G_lload_n 0 dr_cX14_number_97 rfl ?_
            refine G_l2i dr_cX14_number_98 (G_nam fun z649733 hz649733 => ?_)
            have bz649733 : gB z649733 (-2147483648) 2147483647 := gB_any z649733
            refine G_i2l dr_cX14_number_99 (G_namL fun u649734 hu649734 => ?_)
            refine G_lcmp dr_cX14_number_100 (G_nam fun z649735 hz649735 => ?_)
            have bz649735 : gB z649735 (-1) 1 := gB_cmp hz649735
            refine G_if_ne 108 dr_cX14_number_101 (by decide +kernel) (fun hc649736 => ?_) (fun hc649736 => ?_)
            · have r649737 : z649735.toInt ≠ 0 := gj_neq hc649736 (show Int32.toInt 0 = 0 by decide)
              have lhc649736 := gC_cmpN hz649735 hc649736
              refine G_bipush 6 dr_cX14_number_108 (by decide +kernel) ?_
              refine Gp_put 3 hmq649455 he649731 dr_cX14_number_110 (gk_X14 D I) (Nat.le_of_ble_eq_true rfl) wr_9_35 rfl rfl rfl (Nat.le_of_ble_eq_true rfl) (fun F649738 e649739 n649740 => ?_)
              have he649741 : F649738 q649456 = .inl (I .byte, 8192, .inl f649471) := (n649740 q649456 (rn_ao he649730 he649731)).trans he649730
              have he649742 : F649738 q649455 = .inr (19, [.ref q649456, .int p649458, .int g649678, .int 6, .int p649461, .int z649726, .int p649463, .ref qo649464, .int p649465, .int p649466, .int p649467, .ref qo649468, .ref qo649469, .int p649470]) := e649739
              have hfr649743 : rFr [q649455] P649453 F649454 F649738 := rFr_put' List.mem_cons_self hfr649732 n649740
              exact G_vretA dr_cX14_number_113 rfl (show 0 ≤ ((16 * (p649458.toInt - p649459.toInt)).toNat) by omega) (show 0 ≤ ((160 * (p649458.toInt - p649459.toInt)).toNat) by omega) ⟨F649738, g649678, 6, z649726, rfl, rfl, hfr649743, he649742, he649741, (by omega), (by omega), (gB_w bg649678' (by decide) (by decide)), (gB_w (gBl (show Int32.toInt 6 = 6 by decide)) (by decide) (by decide)), (by have qa0 : Int32.toInt 6 = 6 := (by decide); omega), (by have qa0 : Int32.toInt 6 = 6 := (by decide); omega), (tP_no (by decide) (by decide)), (vP_no (by decide) (by decide))⟩
            · have r649744 : z649735.toInt = 0 := gj_eq hc649736 (show Int32.toInt 0 = 0 by decide)
              have bz649735' : gB z649735 0 0 := ⟨by omega, by omega⟩
              have lhc649736 := gC_cmpE hz649735 hc649736
              refine G_iconst 4 dr_cX14_number_104 (by decide +kernel) ?_
              refine G_goto 110 dr_cX14_number_105 (by decide +kernel) ?_
              refine Gp_put 3 hmq649455 he649731 dr_cX14_number_110 (gk_X14 D I) (Nat.le_of_ble_eq_true rfl) wr_9_35 rfl rfl rfl (Nat.le_of_ble_eq_true rfl) (fun F649745 e649746 n649747 => ?_)
              have he649748 : F649745 q649456 = .inl (I .byte, 8192, .inl f649471) := (n649747 q649456 (rn_ao he649730 he649731)).trans he649730
              have he649749 : F649745 q649455 = .inr (19, [.ref q649456, .int p649458, .int g649678, .int 4, .int p649461, .int z649726, .int p649463, .ref qo649464, .int p649465, .int p649466, .int p649467, .ref qo649468, .ref qo649469, .int p649470]) := e649746
              have hfr649750 : rFr [q649455] P649453 F649454 F649745 := rFr_put' List.mem_cons_self hfr649732 n649747
              exact G_vretA dr_cX14_number_113 rfl (show 0 ≤ ((16 * (p649458.toInt - p649459.toInt)).toNat) by omega) (show 0 ≤ ((160 * (p649458.toInt - p649459.toInt)).toNat) by omega) ⟨F649745, g649678, 4, z649726, rfl, rfl, hfr649750, he649749, he649748, (by omega), (by omega), (gB_w bg649678' (by decide) (by decide)), (gB_w (gBl (show Int32.toInt 4 = 4 by decide)) (by decide) (by decide)), (by have qa0 : Int32.toInt 4 = 4 := (by decide); omega), (by have qa0 : Int32.toInt 4 = 4 := (by decide); omega), (tP_no (by decide) (by decide)), (vP_no (by decide) (by decide))⟩
          · have r649751 : o649721.toInt ≠ 0 := gj_neq hc649723 (show Int32.toInt 0 = 0 by decide)
            have bo649721' : gB o649721 1 1 := ⟨by omega, by omega⟩
            have bi649752 : gB z649715 48 57 := isP_1 x649722 (by omega)
            refine G_lload_n 0 dr_cX14_number_42 rfl ?_
            refine G_ldc2 10 dr_cX14_number_43 wr_7_225 ?_
            refine G_lmul dr_cX14_number_46 (G_namL fun u649753 hu649753 => ?_)
            refine G_aload_n 1 dr_cX14_number_47 rfl ?_
            refine Gp_get 0 hmq649455 he649680 dr_cX14_number_48 (gk_X14 D I) (Nat.le_of_ble_eq_true rfl) wr_9_32 rfl ?_
            refine G_aload_n 1 dr_cX14_number_51 rfl ?_
            refine Gp_get 2 hmq649455 he649680 dr_cX14_number_52 (gk_X14 D I) (Nat.le_of_ble_eq_true rfl) wr_9_34 rfl ?_
            refine Gp_bald 1 hmq649456 he649681 dr_cX14_number_55 rfl (gB_in bg649678' (by decide) (by decide)) (G_eqi (y := z649715) hz649715.symm ?_)
            refine G_i2l dr_cX14_number_56 (G_namL fun u649754 hu649754 => ?_)
            refine G_ladd dr_cX14_number_57 (G_namL fun u649755 hu649755 => ?_)
            refine G_ldc2 48 dr_cX14_number_58 wr_7_226 ?_
            refine G_lsub dr_cX14_number_61 (G_namL fun u649756 hu649756 => ?_)
            refine G_ldc2 1099511627776 dr_cX14_number_62 wr_8_218 ?_
            refine Gw_callS (As := [.long u649756, .long 1099511627776]) (gV_ok D I) (cp_649566_Math_min l hl0 D I P649453 F649679 u649756 1099511627776 ) dr_cX14_number_65 ⟨wr_7_228, wr_1_6, wr_3_40, by decide, rfl, (Nat.le_of_ble_eq_true rfl), (Nat.le_of_ble_eq_true rfl)⟩ wr_3_39 (show 0 + 0 ≤ ((16 * (p649458.toInt - p649459.toInt)).toNat) by first | omega | decide) (show 0 + 0 ≤ ((160 * (p649458.toInt - p649459.toInt)).toNat) by first | omega | decide) (Nat.le_of_ble_eq_true rfl) (fun r649760 w649761 dc649757 ds649758 hp649759 => ?_) (fun _ _ _ _ _ z => z.elim)
            obtain ⟨ol649762, rfl, rfl, hdc, hds, x649763⟩ := hp649759
            change G _ _ _ _ _ _ _ (.long ol649762 :: _) _ _ _
            refine G_widen (cs' := 0) (sl' := 0) (by omega) (by omega) ?_
            refine G_lstore_n (L' := [(2, .long ol649762), (0, .ref q649455), (1, .int p649457)]) dr_cX14_number_68 (Nat.le_of_ble_eq_true rfl) rfl ?_
            refine G_aload_n 1 dr_cX14_number_69 rfl ?_
            refine G_dup dr_cX14_number_70 rfl ?_
            refine Gp_get 2 hmq649455 he649680 dr_cX14_number_71 (gk_X14 D I) (Nat.le_of_ble_eq_true rfl) wr_9_34 rfl ?_
            refine G_iconst 1 dr_cX14_number_74 (by decide +kernel) ?_
            refine G_iadd dr_cX14_number_75 (G_nam fun z649764 hz649764 => ?_)
            have ez649764 : z649764.toInt = g649678.toInt + 1 := by rw [gI_add hz649764 bg649678' (gBl (show Int32.toInt 1 = 1 by decide)) (by decide) (by decide), show Int32.toInt 1 = 1 from by decide]
            have bz649764 : gB z649764 1 8192 := gB_add (gI_add hz649764 bg649678' (gBl (show Int32.toInt 1 = 1 by decide)) (by decide) (by decide)) bg649678' (gBl (show Int32.toInt 1 = 1 by decide)) (by decide) (by decide)
            refine Gp_put 2 hmq649455 he649680 dr_cX14_number_76 (gk_X14 D I) (Nat.le_of_ble_eq_true rfl) wr_9_34 rfl rfl rfl (Nat.le_of_ble_eq_true rfl) (fun F649765 e649766 n649767 => ?_)
            have he649768 : F649765 q649456 = .inl (I .byte, 8192, .inl f649471) := (n649767 q649456 (rn_ao he649681 he649680)).trans he649681
            have he649769 : F649765 q649455 = .inr (19, [.ref q649456, .int p649458, .int z649764, .int p649460, .int p649461, .int p649462, .int p649463, .ref qo649464, .int p649465, .int p649466, .int p649467, .ref qo649468, .ref qo649469, .int p649470]) := e649766
            have hfr649770 : rFr [q649455] P649453 F649454 F649765 := rFr_put' List.mem_cons_self hfr649682 n649767
            refine G_goto 16 dr_cX14_number_79 (by decide +kernel) ?_
            exact ih16_649685 F649765 ol649762 z649764 (gB_w bz649764 (by decide) (by decide)) hfr649770 he649769 he649768 (by omega) (by omega) (by omega) (by omega)
    exact hlp16_649685 (((8193 : Int) - p649459.toInt).toNat + 1) F649454 0 p649459 bp649459 (rFr_v (rFr_rf (W := []) (P := P649453) (F := F649454)) (fun b hn => nm_n)) heq649455 heq649456 (by omega) (by omega) (by omega) (Nat.lt_succ_self _)
  · have r649771 : p649457.toInt ≠ 0 := gj_neq hc649478 (show Int32.toInt 0 = 0 by decide)
    have bp649457' : gB p649457 1 1 := ⟨by omega, by omega⟩
    refine G_aload_n 0 dr_cX14_number_4 rfl ?_
    refine G_dup dr_cX14_number_5 rfl ?_
    refine Gp_get 2 hmq649455 heq649455 dr_cX14_number_6 (gk_X14 D I) (Nat.le_of_ble_eq_true rfl) wr_9_34 rfl ?_
    refine G_iconst 1 dr_cX14_number_9 (by decide +kernel) ?_
    refine G_iadd dr_cX14_number_10 (G_nam fun z649772 hz649772 => ?_)
    have ez649772 : z649772.toInt = p649459.toInt + 1 := by rw [gI_add hz649772 bp649459 (gBl (show Int32.toInt 1 = 1 by decide)) (by decide) (by decide), show Int32.toInt 1 = 1 from by decide]
    have bz649772 : gB z649772 1 8193 := gB_add (gI_add hz649772 bp649459 (gBl (show Int32.toInt 1 = 1 by decide)) (by decide) (by decide)) bp649459 (gBl (show Int32.toInt 1 = 1 by decide)) (by decide) (by decide)
    refine Gp_put 2 hmq649455 heq649455 dr_cX14_number_11 (gk_X14 D I) (Nat.le_of_ble_eq_true rfl) wr_9_34 rfl rfl rfl (Nat.le_of_ble_eq_true rfl) (fun F649773 e649774 n649775 => ?_)
    have he649776 : F649773 q649456 = .inl (I .byte, 8192, .inl f649471) := (n649775 q649456 (rn_ao heq649456 heq649455)).trans heq649456
    have he649777 : F649773 q649455 = .inr (19, [.ref q649456, .int p649458, .int z649772, .int p649460, .int p649461, .int p649462, .int p649463, .ref qo649464, .int p649465, .int p649466, .int p649467, .ref qo649468, .ref qo649469, .int p649470]) := e649774
    have hfr649778 : rFr [q649455] P649453 F649454 F649773 := rFr_put (rFr_rf (W := []) (P := P649453) (F := F649454)) n649775
    refine G_lconst 0 dr_cX14_number_14 rfl ?_
    refine G_lstore_n (L' := [(2, .long 0), (0, .ref q649455), (1, .int p649457)]) dr_cX14_number_15 (Nat.le_of_ble_eq_true rfl) rfl ?_
    have hlp16_649967 : ∀ (n16_649967 : Nat) (F649961 : Nat → va_E) (gl649959 : Int64) (g649960 : Int32), gB g649960 0 8192 → rFr [q649455] P649453 F649454 F649961 → F649961 q649455 = .inr (19, [.ref q649456, .int p649458, .int g649960, .int p649460, .int p649461, .int p649462, .int p649463, .ref qo649464, .int p649465, .int p649466, .int p649467, .ref qo649468, .ref qo649469, .int p649470]) → F649961 q649456 = .inl (I .byte, 8192, .inl f649471) → p649459.toInt ≤ g649960.toInt → g649960.toInt ≤ p649458.toInt → (p649457.toInt = 0 ∨ p649459.toInt < g649960.toInt) → ((8193 : Int) - g649960.toInt).toNat < n16_649967 → G (gV D I) l (gRm 1 23 ((16 * (p649458.toInt - p649459.toInt)).toNat) ((160 * (p649458.toInt - p649459.toInt)).toNat)) (gMA (gV D I) (pp_649477_Reader_number D I P649453 F649454 q649455 q649456 p649457 p649458 p649459 p649460 p649461 p649462 p649463 qo649464 p649465 p649466 p649467 qo649468 qo649469 p649470 f649471) gNA ((16 * (p649458.toInt - p649459.toInt)).toNat) ((160 * (p649458.toInt - p649459.toInt)).toNat)) ky_649477_Reader_number 16 [(2, .long gl649959), (0, .ref q649455), (1, .int p649457)] [] (va_pl P649453 F649961) 0 0 := by
      intro n16_649967
      induction n16_649967 with
      | zero => intro F649961 gl649959 g649960 bg649960 hfr649964 he649962 he649963 x649965 x649966 x649967 hm16_649967; exact absurd hm16_649967 (Nat.not_lt_zero _)
      | succ n16_649967 ih16_649967 =>
        intro F649961 gl649959 g649960 bg649960 hfr649964 he649962 he649963 x649965 x649966 x649967 hm16_649967
        refine G_aload_n 1 dr_cX14_number_16 rfl ?_
        refine Gp_get 2 hmq649455 he649962 dr_cX14_number_17 (gk_X14 D I) (Nat.le_of_ble_eq_true rfl) wr_9_34 rfl ?_
        refine G_aload_n 1 dr_cX14_number_20 rfl ?_
        refine Gp_get 1 hmq649455 he649962 dr_cX14_number_21 (gk_X14 D I) (Nat.le_of_ble_eq_true rfl) wr_9_33 rfl ?_
        refine G_icmp_ge 82 dr_cX14_number_24 (by decide +kernel) (fun hc649968 => ?_) (fun hc649968 => ?_)
        · have r649969 : p649458.toInt ≤ g649960.toInt := gC_le hc649968
          have x649970 : p649459.toInt < g649960.toInt := by first | omega | exact cDg_lt x649474 (by omega) (by assumption) (isP_0 (by assumption) (by omega)) (by omega)
          refine G_iload_n 2 dr_cX14_number_82 rfl ?_
          refine G_if_eq 89 dr_cX14_number_83 (by decide +kernel) (fun hc => absurd (show False by have := gj_eq hc (show Int32.toInt 0 = 0 by decide); omega) not_false) (fun _ => ?_)
          refine G_lload_n 0 dr_cX14_number_86 rfl ?_
          refine G_lneg dr_cX14_number_87 (G_namL fun u649971 hu649971 => ?_)
          refine G_lstore_n (L' := [(2, .long u649971), (0, .ref q649455), (1, .int p649457)]) dr_cX14_number_88 (Nat.le_of_ble_eq_true rfl) rfl ?_
          refine G_aload_n 1 dr_cX14_number_89 rfl ?_
          refine G_lload_n 0 dr_cX14_number_90 rfl ?_
          refine G_l2i dr_cX14_number_91 (G_nam fun z649972 hz649972 => ?_)
          have bz649972 : gB z649972 (-2147483648) 2147483647 := gB_any z649972
          refine Gp_put 5 hmq649455 he649962 dr_cX14_number_92 (gk_X14 D I) (Nat.le_of_ble_eq_true rfl) wr_9_37 rfl rfl rfl (Nat.le_of_ble_eq_true rfl) (fun F649973 e649974 n649975 => ?_)
          have he649976 : F649973 q649456 = .inl (I .byte, 8192, .inl f649471) := (n649975 q649456 (rn_ao he649963 he649962)).trans he649963
          have he649977 : F649973 q649455 = .inr (19, [.ref q649456, .int p649458, .int g649960, .int p649460, .int p649461, .int z649972, .int p649463, .ref qo649464, .int p649465, .int p649466, .int p649467, .ref qo649468, .ref qo649469, .int p649470]) := e649974
          have hfr649978 : rFr [q649455] P649453 F649454 F649973 := rFr_put' List.mem_cons_self hfr649964 n649975
          refine G_aload_n 1 dr_cX14_number_95 rfl ?_
          refine G_lload_n 0 dr_cX14_number_96 rfl ?_
          refine G_lload_n 0 dr_cX14_number_97 rfl ?_
          refine G_l2i dr_cX14_number_98 (G_nam fun z649979 hz649979 => ?_)
          have bz649979 : gB z649979 (-2147483648) 2147483647 := gB_any z649979
          refine G_i2l dr_cX14_number_99 (G_namL fun u649980 hu649980 => ?_)
          refine G_lcmp dr_cX14_number_100 (G_nam fun z649981 hz649981 => ?_)
          have bz649981 : gB z649981 (-1) 1 := gB_cmp hz649981
          refine G_if_ne 108 dr_cX14_number_101 (by decide +kernel) (fun hc649982 => ?_) (fun hc649982 => ?_)
          · have r649983 : z649981.toInt ≠ 0 := gj_neq hc649982 (show Int32.toInt 0 = 0 by decide)
            have lhc649982 := gC_cmpN hz649981 hc649982
            refine G_bipush 6 dr_cX14_number_108 (by decide +kernel) ?_
            refine Gp_put 3 hmq649455 he649977 dr_cX14_number_110 (gk_X14 D I) (Nat.le_of_ble_eq_true rfl) wr_9_35 rfl rfl rfl (Nat.le_of_ble_eq_true rfl) (fun F649984 e649985 n649986 => ?_)
            have he649987 : F649984 q649456 = .inl (I .byte, 8192, .inl f649471) := (n649986 q649456 (rn_ao he649976 he649977)).trans he649976
            have he649988 : F649984 q649455 = .inr (19, [.ref q649456, .int p649458, .int g649960, .int 6, .int p649461, .int z649972, .int p649463, .ref qo649464, .int p649465, .int p649466, .int p649467, .ref qo649468, .ref qo649469, .int p649470]) := e649985
            have hfr649989 : rFr [q649455] P649453 F649454 F649984 := rFr_put' List.mem_cons_self hfr649978 n649986
            exact G_vretA dr_cX14_number_113 rfl (show 0 ≤ ((16 * (p649458.toInt - p649459.toInt)).toNat) by omega) (show 0 ≤ ((160 * (p649458.toInt - p649459.toInt)).toNat) by omega) ⟨F649984, g649960, 6, z649972, rfl, rfl, hfr649989, he649988, he649987, (by omega), (by omega), bg649960, (gB_w (gBl (show Int32.toInt 6 = 6 by decide)) (by decide) (by decide)), (by have qa0 : Int32.toInt 6 = 6 := (by decide); omega), (by have qa0 : Int32.toInt 6 = 6 := (by decide); omega), (tP_no (by decide) (by decide)), (vP_no (by decide) (by decide))⟩
          · have r649990 : z649981.toInt = 0 := gj_eq hc649982 (show Int32.toInt 0 = 0 by decide)
            have bz649981' : gB z649981 0 0 := ⟨by omega, by omega⟩
            have lhc649982 := gC_cmpE hz649981 hc649982
            refine G_iconst 4 dr_cX14_number_104 (by decide +kernel) ?_
            refine G_goto 110 dr_cX14_number_105 (by decide +kernel) ?_
            refine Gp_put 3 hmq649455 he649977 dr_cX14_number_110 (gk_X14 D I) (Nat.le_of_ble_eq_true rfl) wr_9_35 rfl rfl rfl (Nat.le_of_ble_eq_true rfl) (fun F649991 e649992 n649993 => ?_)
            have he649994 : F649991 q649456 = .inl (I .byte, 8192, .inl f649471) := (n649993 q649456 (rn_ao he649976 he649977)).trans he649976
            have he649995 : F649991 q649455 = .inr (19, [.ref q649456, .int p649458, .int g649960, .int 4, .int p649461, .int z649972, .int p649463, .ref qo649464, .int p649465, .int p649466, .int p649467, .ref qo649468, .ref qo649469, .int p649470]) := e649992
            have hfr649996 : rFr [q649455] P649453 F649454 F649991 := rFr_put' List.mem_cons_self hfr649978 n649993
            exact G_vretA dr_cX14_number_113 rfl (show 0 ≤ ((16 * (p649458.toInt - p649459.toInt)).toNat) by omega) (show 0 ≤ ((160 * (p649458.toInt - p649459.toInt)).toNat) by omega) ⟨F649991, g649960, 4, z649972, rfl, rfl, hfr649996, he649995, he649994, (by omega), (by omega), bg649960, (gB_w (gBl (show Int32.toInt 4 = 4 by decide)) (by decide) (by decide)), (by have qa0 : Int32.toInt 4 = 4 := (by decide); omega), (by have qa0 : Int32.toInt 4 = 4 := (by decide); omega), (tP_no (by decide) (by decide)), (vP_no (by decide) (by decide))⟩
        · have r649997 : g649960.toInt < p649458.toInt := gC_nle hc649968
          have bg649960' : gB g649960 0 8191 := ⟨by omega, by omega⟩
          have bp649458' : gB p649458 1 8192 := ⟨by omega, by omega⟩
          refine G_aload_n 1 dr_cX14_number_27 rfl ?_
          refine Gp_get 0 hmq649455 he649962 dr_cX14_number_28 (gk_X14 D I) (Nat.le_of_ble_eq_true rfl) wr_9_32 rfl ?_
          refine G_aload_n 1 dr_cX14_number_31 rfl ?_
          refine Gp_get 2 hmq649455 he649962 dr_cX14_number_32 (gk_X14 D I) (Nat.le_of_ble_eq_true rfl) wr_9_34 rfl ?_
          refine Gp_bald 1 hmq649456 he649963 dr_cX14_number_35 rfl (gB_in bg649960' (by decide) (by decide)) (G_nam fun z649998 hz649998 => ?_)
          have bz649998 : gB z649998 (-128) 127 := by rw [hz649998]; exact bf649471 _
          refine Gw_callS (As := [.int z649998]) (gV_ok D I) (cp_649513_Reader_isDigit l hl0 D I P649453 F649961 z649998 ) dr_cX14_number_36 ⟨wr_7_215, wr_1_32, wr_7_217, by decide, rfl, (Nat.le_of_ble_eq_true rfl), (Nat.le_of_ble_eq_true rfl)⟩ wr_7_216 (show 0 + 0 ≤ ((16 * (p649458.toInt - p649459.toInt)).toNat) by first | omega | decide) (show 0 + 0 ≤ ((160 * (p649458.toInt - p649459.toInt)).toNat) by first | omega | decide) (Nat.le_of_ble_eq_true rfl) (fun r650002 w650003 dc649999 ds650000 hp650001 => ?_) (fun _ _ _ _ _ z => z.elim)
          obtain ⟨o650004, rfl, rfl, hdc, hds, bo650004, x650005⟩ := hp650001
          change G _ _ _ _ _ _ _ (.int o650004 :: _) _ _ _
          refine G_widen (cs' := 0) (sl' := 0) (by omega) (by omega) ?_
          refine G_if_eq 82 dr_cX14_number_39 (by decide +kernel) (fun hc650006 => ?_) (fun hc650006 => ?_)
          · have r650007 : o650004.toInt = 0 := gj_eq hc650006 (show Int32.toInt 0 = 0 by decide)
            have bo650004' : gB o650004 0 0 := ⟨by omega, by omega⟩
            have x650008 : p649459.toInt < g649960.toInt := by first | omega | exact cDg_lt x649474 (by omega) (by assumption) (isP_0 (by assumption) (by omega)) (by omega)
            refine G_iload_n 2 dr_cX14_number_82 rfl ?_
            refine G_if_eq 89 dr_cX14_number_83 (by decide +kernel) (fun hc => absurd (show False by have := gj_eq hc (show Int32.toInt 0 = 0 by decide); omega) not_false) (fun _ => ?_)
            refine G_lload_n 0 dr_cX14_number_86 rfl ?_
            refine G_lneg dr_cX14_number_87 (G_namL fun u650009 hu650009 => ?_)
            refine G_lstore_n (L' := [(2, .long u650009), (0, .ref q649455), (1, .int p649457)]) dr_cX14_number_88 (Nat.le_of_ble_eq_true rfl) rfl ?_
            refine G_aload_n 1 dr_cX14_number_89 rfl ?_
            refine G_lload_n 0 dr_cX14_number_90 rfl ?_
            refine G_l2i dr_cX14_number_91 (G_nam fun z650010 hz650010 => ?_)
            have bz650010 : gB z650010 (-2147483648) 2147483647 := gB_any z650010
            refine Gp_put 5 hmq649455 he649962 dr_cX14_number_92 (gk_X14 D I) (Nat.le_of_ble_eq_true rfl) wr_9_37 rfl rfl rfl (Nat.le_of_ble_eq_true rfl) (fun F650011 e650012 n650013 => ?_)
            have he650014 : F650011 q649456 = .inl (I .byte, 8192, .inl f649471) := (n650013 q649456 (rn_ao he649963 he649962)).trans he649963
            have he650015 : F650011 q649455 = .inr (19, [.ref q649456, .int p649458, .int g649960, .int p649460, .int p649461, .int z650010, .int p649463, .ref qo649464, .int p649465, .int p649466, .int p649467, .ref qo649468, .ref qo649469, .int p649470]) := e650012
            have hfr650016 : rFr [q649455] P649453 F649454 F650011 := rFr_put' List.mem_cons_self hfr649964 n650013
            refine G_aload_n 1 dr_cX14_number_95 rfl ?_
            refine G_lload_n 0 dr_cX14_number_96 rfl ?_
            refine G_lload_n 0 dr_cX14_number_97 rfl ?_
            refine G_l2i dr_cX14_number_98 (G_nam fun z650017 hz650017 => ?_)
            have bz650017 : gB z650017 (-2147483648) 2147483647 := gB_any z650017
            refine G_i2l dr_cX14_number_99 (G_namL fun u650018 hu650018 => ?_)
            refine G_lcmp dr_cX14_number_100 (G_nam fun z650019 hz650019 => ?_)
            have bz650019 : gB z650019 (-1) 1 := gB_cmp hz650019
            refine G_if_ne 108 dr_cX14_number_101 (by decide +kernel) (fun hc650020 => ?_) (fun hc650020 => ?_)
            · have r650021 : z650019.toInt ≠ 0 := gj_neq hc650020 (show Int32.toInt 0 = 0 by decide)
              have lhc650020 := gC_cmpN hz650019 hc650020
              refine G_bipush 6 dr_cX14_number_108 (by decide +kernel) ?_
              refine Gp_put 3 hmq649455 he650015 dr_cX14_number_110 (gk_X14 D I) (Nat.le_of_ble_eq_true rfl) wr_9_35 rfl rfl rfl (Nat.le_of_ble_eq_true rfl) (fun F650022 e650023 n650024 => ?_)
              have he650025 : F650022 q649456 = .inl (I .byte, 8192, .inl f649471) := (n650024 q649456 (rn_ao he650014 he650015)).trans he650014
              have he650026 : F650022 q649455 = .inr (19, [.ref q649456, .int p649458, .int g649960, .int 6, .int p649461, .int z650010, .int p649463, .ref qo649464, .int p649465, .int p649466, .int p649467, .ref qo649468, .ref qo649469, .int p649470]) := e650023
              have hfr650027 : rFr [q649455] P649453 F649454 F650022 := rFr_put' List.mem_cons_self hfr650016 n650024
              exact G_vretA dr_cX14_number_113 rfl (show 0 ≤ ((16 * (p649458.toInt - p649459.toInt)).toNat) by omega) (show 0 ≤ ((160 * (p649458.toInt - p649459.toInt)).toNat) by omega) ⟨F650022, g649960, 6, z650010, rfl, rfl, hfr650027, he650026, he650025, (by omega), (by omega), (gB_w bg649960' (by decide) (by decide)), (gB_w (gBl (show Int32.toInt 6 = 6 by decide)) (by decide) (by decide)), (by have qa0 : Int32.toInt 6 = 6 := (by decide); omega), (by have qa0 : Int32.toInt 6 = 6 := (by decide); omega), (tP_no (by decide) (by decide)), (vP_no (by decide) (by decide))⟩
            · have r650028 : z650019.toInt = 0 := gj_eq hc650020 (show Int32.toInt 0 = 0 by decide)
              have bz650019' : gB z650019 0 0 := ⟨by omega, by omega⟩
              have lhc650020 := gC_cmpE hz650019 hc650020
              refine G_iconst 4 dr_cX14_number_104 (by decide +kernel) ?_
              refine G_goto 110 dr_cX14_number_105 (by decide +kernel) ?_
              refine Gp_put 3 hmq649455 he650015 dr_cX14_number_110 (gk_X14 D I) (Nat.le_of_ble_eq_true rfl) wr_9_35 rfl rfl rfl (Nat.le_of_ble_eq_true rfl) (fun F650029 e650030 n650031 => ?_)
              have he650032 : F650029 q649456 = .inl (I .byte, 8192, .inl f649471) := (n650031 q649456 (rn_ao he650014 he650015)).trans he650014
              have he650033 : F650029 q649455 = .inr (19, [.ref q649456, .int p649458, .int g649960, .int 4, .int p649461, .int z650010, .int p649463, .ref qo649464, .int p649465, .int p649466, .int p649467, .ref qo649468, .ref qo649469, .int p649470]) := e650030
              have hfr650034 : rFr [q649455] P649453 F649454 F650029 := rFr_put' List.mem_cons_self hfr650016 n650031
              exact G_vretA dr_cX14_number_113 rfl (show 0 ≤ ((16 * (p649458.toInt - p649459.toInt)).toNat) by omega) (show 0 ≤ ((160 * (p649458.toInt - p649459.toInt)).toNat) by omega) ⟨F650029, g649960, 4, z650010, rfl, rfl, hfr650034, he650033, he650032, (by omega), (by omega), (gB_w bg649960' (by decide) (by decide)), (gB_w (gBl (show Int32.toInt 4 = 4 by decide)) (by decide) (by decide)), (by have qa0 : Int32.toInt 4 = 4 := (by decide); omega), (by have qa0 : Int32.toInt 4 = 4 := (by decide); omega), (tP_no (by decide) (by decide)), (vP_no (by decide) (by decide))⟩
          · have r650035 : o650004.toInt ≠ 0 := gj_neq hc650006 (show Int32.toInt 0 = 0 by decide)
            have bo650004' : gB o650004 1 1 := ⟨by omega, by omega⟩
            have bi650036 : gB z649998 48 57 := isP_1 x650005 (by omega)
            refine G_lload_n 0 dr_cX14_number_42 rfl ?_
            refine G_ldc2 10 dr_cX14_number_43 wr_7_225 ?_
            refine G_lmul dr_cX14_number_46 (G_namL fun u650037 hu650037 => ?_)
            refine G_aload_n 1 dr_cX14_number_47 rfl ?_
            refine Gp_get 0 hmq649455 he649962 dr_cX14_number_48 (gk_X14 D I) (Nat.le_of_ble_eq_true rfl) wr_9_32 rfl ?_
            refine G_aload_n 1 dr_cX14_number_51 rfl ?_
            refine Gp_get 2 hmq649455 he649962 dr_cX14_number_52 (gk_X14 D I) (Nat.le_of_ble_eq_true rfl) wr_9_34 rfl ?_
            refine Gp_bald 1 hmq649456 he649963 dr_cX14_number_55 rfl (gB_in bg649960' (by decide) (by decide)) (G_eqi (y := z649998) hz649998.symm ?_)
            refine G_i2l dr_cX14_number_56 (G_namL fun u650038 hu650038 => ?_)
            refine G_ladd dr_cX14_number_57 (G_namL fun u650039 hu650039 => ?_)
            refine G_ldc2 48 dr_cX14_number_58 wr_7_226 ?_
            refine G_lsub dr_cX14_number_61 (G_namL fun u650040 hu650040 => ?_)
            refine G_ldc2 1099511627776 dr_cX14_number_62 wr_8_218 ?_
            refine Gw_callS (As := [.long u650040, .long 1099511627776]) (gV_ok D I) (cp_649566_Math_min l hl0 D I P649453 F649961 u650040 1099511627776 ) dr_cX14_number_65 ⟨wr_7_228, wr_1_6, wr_3_40, by decide, rfl, (Nat.le_of_ble_eq_true rfl), (Nat.le_of_ble_eq_true rfl)⟩ wr_3_39 (show 0 + 0 ≤ ((16 * (p649458.toInt - p649459.toInt)).toNat) by first | omega | decide) (show 0 + 0 ≤ ((160 * (p649458.toInt - p649459.toInt)).toNat) by first | omega | decide) (Nat.le_of_ble_eq_true rfl) (fun r650044 w650045 dc650041 ds650042 hp650043 => ?_) (fun _ _ _ _ _ z => z.elim)
            obtain ⟨ol650046, rfl, rfl, hdc, hds, x650047⟩ := hp650043
            change G _ _ _ _ _ _ _ (.long ol650046 :: _) _ _ _
            refine G_widen (cs' := 0) (sl' := 0) (by omega) (by omega) ?_
            refine G_lstore_n (L' := [(2, .long ol650046), (0, .ref q649455), (1, .int p649457)]) dr_cX14_number_68 (Nat.le_of_ble_eq_true rfl) rfl ?_
            refine G_aload_n 1 dr_cX14_number_69 rfl ?_
            refine G_dup dr_cX14_number_70 rfl ?_
            refine Gp_get 2 hmq649455 he649962 dr_cX14_number_71 (gk_X14 D I) (Nat.le_of_ble_eq_true rfl) wr_9_34 rfl ?_
            refine G_iconst 1 dr_cX14_number_74 (by decide +kernel) ?_
            refine G_iadd dr_cX14_number_75 (G_nam fun z650048 hz650048 => ?_)
            have ez650048 : z650048.toInt = g649960.toInt + 1 := by rw [gI_add hz650048 bg649960' (gBl (show Int32.toInt 1 = 1 by decide)) (by decide) (by decide), show Int32.toInt 1 = 1 from by decide]
            have bz650048 : gB z650048 1 8192 := gB_add (gI_add hz650048 bg649960' (gBl (show Int32.toInt 1 = 1 by decide)) (by decide) (by decide)) bg649960' (gBl (show Int32.toInt 1 = 1 by decide)) (by decide) (by decide)
            refine Gp_put 2 hmq649455 he649962 dr_cX14_number_76 (gk_X14 D I) (Nat.le_of_ble_eq_true rfl) wr_9_34 rfl rfl rfl (Nat.le_of_ble_eq_true rfl) (fun F650049 e650050 n650051 => ?_)
            have he650052 : F650049 q649456 = .inl (I .byte, 8192, .inl f649471) := (n650051 q649456 (rn_ao he649963 he649962)).trans he649963
            have he650053 : F650049 q649455 = .inr (19, [.ref q649456, .int p649458, .int z650048, .int p649460, .int p649461, .int p649462, .int p649463, .ref qo649464, .int p649465, .int p649466, .int p649467, .ref qo649468, .ref qo649469, .int p649470]) := e650050
            have hfr650054 : rFr [q649455] P649453 F649454 F650049 := rFr_put' List.mem_cons_self hfr649964 n650051
            refine G_goto 16 dr_cX14_number_79 (by decide +kernel) ?_
            exact ih16_649967 F650049 ol650046 z650048 (gB_w bz650048 (by decide) (by decide)) hfr650054 he650053 he650052 (by omega) (by omega) (by omega) (by omega)
    exact hlp16_649967 (((8193 : Int) - z649772.toInt).toNat + 1) F649773 0 z649772 ⟨by omega, by omega⟩ hfr649778 he649777 he649776 (by omega) (by omega) (by omega) (Nat.lt_succ_self _)
