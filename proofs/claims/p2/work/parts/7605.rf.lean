theorem dr_cJ6_numberOfTrailingZeros_0f7a4_0 : decode cJ6_numberOfTrailingZeros_0f7a4 0 = .ok (.iload_n 0, 1) := by decide +kernel
theorem dr_cJ6_numberOfTrailingZeros_0f7a4_1 : decode cJ6_numberOfTrailingZeros_0f7a4 1 = .ok (.iconst (-1), 1) := by decide +kernel
theorem dr_cJ6_numberOfTrailingZeros_0f7a4_2 : decode cJ6_numberOfTrailingZeros_0f7a4 2 = .ok (.ixor, 1) := by decide +kernel
theorem dr_cJ6_numberOfTrailingZeros_0f7a4_3 : decode cJ6_numberOfTrailingZeros_0f7a4 3 = .ok (.iload_n 0, 1) := by decide +kernel
theorem dr_cJ6_numberOfTrailingZeros_0f7a4_4 : decode cJ6_numberOfTrailingZeros_0f7a4 4 = .ok (.iconst 1, 1) := by decide +kernel
theorem dr_cJ6_numberOfTrailingZeros_0f7a4_5 : decode cJ6_numberOfTrailingZeros_0f7a4 5 = .ok (.isub, 1) := by decide +kernel
theorem dr_cJ6_numberOfTrailingZeros_0f7a4_6 : decode cJ6_numberOfTrailingZeros_0f7a4 6 = .ok (.iand, 1) := by decide +kernel
theorem dr_cJ6_numberOfTrailingZeros_0f7a4_7 : decode cJ6_numberOfTrailingZeros_0f7a4 7 = .ok (.istore_n 0, 1) := by decide +kernel
theorem dr_cJ6_numberOfTrailingZeros_0f7a4_8 : decode cJ6_numberOfTrailingZeros_0f7a4 8 = .ok (.iload_n 0, 1) := by decide +kernel
theorem dr_cJ6_numberOfTrailingZeros_0f7a4_9 : decode cJ6_numberOfTrailingZeros_0f7a4 9 = .ok (.ifCond .gt 8, 3) := by decide +kernel
theorem dr_cJ6_numberOfTrailingZeros_0f7a4_17 : decode cJ6_numberOfTrailingZeros_0f7a4 17 = .ok (.iconst 1, 1) := by decide +kernel
theorem dr_cJ6_numberOfTrailingZeros_0f7a4_18 : decode cJ6_numberOfTrailingZeros_0f7a4 18 = .ok (.istore_n 1, 1) := by decide +kernel
theorem dr_cJ6_numberOfTrailingZeros_0f7a4_19 : decode cJ6_numberOfTrailingZeros_0f7a4 19 = .ok (.iload_n 0, 1) := by decide +kernel
theorem dr_cJ6_numberOfTrailingZeros_0f7a4_20 : decode cJ6_numberOfTrailingZeros_0f7a4 20 = .ok (.ldc_w 264, 3) := by decide +kernel
theorem wr_11_7 : (Jvm.Cond.constant "java/lang/Integer" (264 : Nat) (65536 : Int32)) ∈ gw := gw_11 7 rfl rfl
theorem dr_cJ6_numberOfTrailingZeros_0f7a4_23 : decode cJ6_numberOfTrailingZeros_0f7a4 23 = .ok (.if_icmp .le 11, 3) := by decide +kernel
theorem dr_cJ6_numberOfTrailingZeros_0f7a4_34 : decode cJ6_numberOfTrailingZeros_0f7a4 34 = .ok (.iload_n 0, 1) := by decide +kernel
theorem dr_cJ6_numberOfTrailingZeros_0f7a4_35 : decode cJ6_numberOfTrailingZeros_0f7a4 35 = .ok (.sipush 256, 3) := by decide +kernel
theorem dr_cJ6_numberOfTrailingZeros_0f7a4_38 : decode cJ6_numberOfTrailingZeros_0f7a4 38 = .ok (.if_icmp .le 11, 3) := by decide +kernel
theorem dr_cJ6_numberOfTrailingZeros_0f7a4_49 : decode cJ6_numberOfTrailingZeros_0f7a4 49 = .ok (.iload_n 0, 1) := by decide +kernel
theorem dr_cJ6_numberOfTrailingZeros_0f7a4_50 : decode cJ6_numberOfTrailingZeros_0f7a4 50 = .ok (.bipush 16, 2) := by decide +kernel
theorem dr_cJ6_numberOfTrailingZeros_0f7a4_52 : decode cJ6_numberOfTrailingZeros_0f7a4 52 = .ok (.if_icmp .le 10, 3) := by decide +kernel
theorem dr_cJ6_numberOfTrailingZeros_0f7a4_62 : decode cJ6_numberOfTrailingZeros_0f7a4 62 = .ok (.iload_n 0, 1) := by decide +kernel
theorem dr_cJ6_numberOfTrailingZeros_0f7a4_63 : decode cJ6_numberOfTrailingZeros_0f7a4 63 = .ok (.iconst 4, 1) := by decide +kernel
theorem dr_cJ6_numberOfTrailingZeros_0f7a4_64 : decode cJ6_numberOfTrailingZeros_0f7a4 64 = .ok (.if_icmp .le 10, 3) := by decide +kernel
theorem dr_cJ6_numberOfTrailingZeros_0f7a4_74 : decode cJ6_numberOfTrailingZeros_0f7a4 74 = .ok (.iload_n 1, 1) := by decide +kernel
theorem dr_cJ6_numberOfTrailingZeros_0f7a4_75 : decode cJ6_numberOfTrailingZeros_0f7a4 75 = .ok (.iload_n 0, 1) := by decide +kernel
theorem dr_cJ6_numberOfTrailingZeros_0f7a4_76 : decode cJ6_numberOfTrailingZeros_0f7a4 76 = .ok (.iconst 1, 1) := by decide +kernel
theorem dr_cJ6_numberOfTrailingZeros_0f7a4_77 : decode cJ6_numberOfTrailingZeros_0f7a4 77 = .ok (.iushr, 1) := by decide +kernel
theorem dr_cJ6_numberOfTrailingZeros_0f7a4_78 : decode cJ6_numberOfTrailingZeros_0f7a4 78 = .ok (.iadd, 1) := by decide +kernel
theorem dr_cJ6_numberOfTrailingZeros_0f7a4_79 : decode cJ6_numberOfTrailingZeros_0f7a4 79 = .ok (.ireturn, 1) := by decide +kernel
theorem dr_cJ6_numberOfTrailingZeros_0f7a4_67 : decode cJ6_numberOfTrailingZeros_0f7a4 67 = .ok (.iinc 1 2, 3) := by decide +kernel
theorem dr_cJ6_numberOfTrailingZeros_0f7a4_70 : decode cJ6_numberOfTrailingZeros_0f7a4 70 = .ok (.iload_n 0, 1) := by decide +kernel
theorem dr_cJ6_numberOfTrailingZeros_0f7a4_71 : decode cJ6_numberOfTrailingZeros_0f7a4 71 = .ok (.iconst 2, 1) := by decide +kernel
theorem dr_cJ6_numberOfTrailingZeros_0f7a4_72 : decode cJ6_numberOfTrailingZeros_0f7a4 72 = .ok (.iushr, 1) := by decide +kernel
theorem dr_cJ6_numberOfTrailingZeros_0f7a4_73 : decode cJ6_numberOfTrailingZeros_0f7a4 73 = .ok (.istore_n 0, 1) := by decide +kernel
theorem dr_cJ6_numberOfTrailingZeros_0f7a4_55 : decode cJ6_numberOfTrailingZeros_0f7a4 55 = .ok (.iinc 1 4, 3) := by decide +kernel
theorem dr_cJ6_numberOfTrailingZeros_0f7a4_58 : decode cJ6_numberOfTrailingZeros_0f7a4 58 = .ok (.iload_n 0, 1) := by decide +kernel
theorem dr_cJ6_numberOfTrailingZeros_0f7a4_59 : decode cJ6_numberOfTrailingZeros_0f7a4 59 = .ok (.iconst 4, 1) := by decide +kernel
theorem dr_cJ6_numberOfTrailingZeros_0f7a4_60 : decode cJ6_numberOfTrailingZeros_0f7a4 60 = .ok (.iushr, 1) := by decide +kernel
theorem dr_cJ6_numberOfTrailingZeros_0f7a4_61 : decode cJ6_numberOfTrailingZeros_0f7a4 61 = .ok (.istore_n 0, 1) := by decide +kernel
theorem dr_cJ6_numberOfTrailingZeros_0f7a4_41 : decode cJ6_numberOfTrailingZeros_0f7a4 41 = .ok (.iinc 1 8, 3) := by decide +kernel
theorem dr_cJ6_numberOfTrailingZeros_0f7a4_44 : decode cJ6_numberOfTrailingZeros_0f7a4 44 = .ok (.iload_n 0, 1) := by decide +kernel
theorem dr_cJ6_numberOfTrailingZeros_0f7a4_45 : decode cJ6_numberOfTrailingZeros_0f7a4 45 = .ok (.bipush 8, 2) := by decide +kernel
theorem dr_cJ6_numberOfTrailingZeros_0f7a4_47 : decode cJ6_numberOfTrailingZeros_0f7a4 47 = .ok (.iushr, 1) := by decide +kernel
theorem dr_cJ6_numberOfTrailingZeros_0f7a4_48 : decode cJ6_numberOfTrailingZeros_0f7a4 48 = .ok (.istore_n 0, 1) := by decide +kernel
theorem dr_cJ6_numberOfTrailingZeros_0f7a4_26 : decode cJ6_numberOfTrailingZeros_0f7a4 26 = .ok (.iinc 1 16, 3) := by decide +kernel
theorem dr_cJ6_numberOfTrailingZeros_0f7a4_29 : decode cJ6_numberOfTrailingZeros_0f7a4 29 = .ok (.iload_n 0, 1) := by decide +kernel
theorem dr_cJ6_numberOfTrailingZeros_0f7a4_30 : decode cJ6_numberOfTrailingZeros_0f7a4 30 = .ok (.bipush 16, 2) := by decide +kernel
theorem dr_cJ6_numberOfTrailingZeros_0f7a4_32 : decode cJ6_numberOfTrailingZeros_0f7a4 32 = .ok (.iushr, 1) := by decide +kernel
theorem dr_cJ6_numberOfTrailingZeros_0f7a4_33 : decode cJ6_numberOfTrailingZeros_0f7a4 33 = .ok (.istore_n 0, 1) := by decide +kernel
theorem dr_cJ6_numberOfTrailingZeros_0f7a4_12 : decode cJ6_numberOfTrailingZeros_0f7a4 12 = .ok (.iload_n 0, 1) := by decide +kernel
theorem dr_cJ6_numberOfTrailingZeros_0f7a4_13 : decode cJ6_numberOfTrailingZeros_0f7a4 13 = .ok (.bipush 32, 2) := by decide +kernel
theorem dr_cJ6_numberOfTrailingZeros_0f7a4_15 : decode cJ6_numberOfTrailingZeros_0f7a4 15 = .ok (.iand, 1) := by decide +kernel
theorem dr_cJ6_numberOfTrailingZeros_0f7a4_16 : decode cJ6_numberOfTrailingZeros_0f7a4 16 = .ok (.ireturn, 1) := by decide +kernel
theorem dr_cJ13_numberOfTrailingZeros_95d88_0 : decode cJ13_numberOfTrailingZeros_95d88 0 = .ok (.lload_n 0, 1) := by decide +kernel
theorem dr_cJ13_numberOfTrailingZeros_95d88_1 : decode cJ13_numberOfTrailingZeros_95d88 1 = .ok (.l2i, 1) := by decide +kernel
theorem dr_cJ13_numberOfTrailingZeros_95d88_2 : decode cJ13_numberOfTrailingZeros_95d88 2 = .ok (.istore_n 2, 1) := by decide +kernel
theorem dr_cJ13_numberOfTrailingZeros_95d88_3 : decode cJ13_numberOfTrailingZeros_95d88 3 = .ok (.iload_n 2, 1) := by decide +kernel
theorem dr_cJ13_numberOfTrailingZeros_95d88_4 : decode cJ13_numberOfTrailingZeros_95d88 4 = .ok (.ifCond .ne 17, 3) := by decide +kernel
theorem dr_cJ13_numberOfTrailingZeros_95d88_21 : decode cJ13_numberOfTrailingZeros_95d88 21 = .ok (.iload_n 2, 1) := by decide +kernel
theorem dr_cJ13_numberOfTrailingZeros_95d88_22 : decode cJ13_numberOfTrailingZeros_95d88 22 = .ok (.invokestatic 311, 3) := by decide +kernel
theorem wr_11_4 : (Jvm.Cond.methodLink "java/lang/Long" (311 : Nat) ({ cls := "java/lang/Integer", name := "numberOfTrailingZeros", desc := "(I)I" } : Jvm.MethodName)) ∈ gw := gw_11 4 rfl rfl
theorem wr_1_35 : (Jvm.Cond.initialized "java/lang/Integer") ∈ gw := gw_1 35 rfl rfl
theorem wr_11_6 : (Jvm.Cond.code ({ cls := "java/lang/Integer", name := "numberOfTrailingZeros", desc := "(I)I" } : Jvm.MethodName) prog_29_method_48_code (2 : Nat) (Option.some Jvm.ClassFile.FieldType.int)) ∈ gw := gw_11 6 rfl rfl
theorem wr_11_5 : (Jvm.Cond.static ({ cls := "java/lang/Integer", name := "numberOfTrailingZeros", desc := "(I)I" } : Jvm.MethodName)) ∈ gw := gw_11 5 rfl rfl
theorem dr_cJ13_numberOfTrailingZeros_95d88_25 : decode cJ13_numberOfTrailingZeros_95d88 25 = .ok (.ireturn, 1) := by decide +kernel
theorem dr_cJ13_numberOfTrailingZeros_95d88_7 : decode cJ13_numberOfTrailingZeros_95d88 7 = .ok (.bipush 32, 2) := by decide +kernel
theorem dr_cJ13_numberOfTrailingZeros_95d88_9 : decode cJ13_numberOfTrailingZeros_95d88 9 = .ok (.lload_n 0, 1) := by decide +kernel
theorem dr_cJ13_numberOfTrailingZeros_95d88_10 : decode cJ13_numberOfTrailingZeros_95d88 10 = .ok (.bipush 32, 2) := by decide +kernel
theorem dr_cJ13_numberOfTrailingZeros_95d88_12 : decode cJ13_numberOfTrailingZeros_95d88 12 = .ok (.lushr, 1) := by decide +kernel
theorem dr_cJ13_numberOfTrailingZeros_95d88_13 : decode cJ13_numberOfTrailingZeros_95d88 13 = .ok (.l2i, 1) := by decide +kernel
theorem dr_cJ13_numberOfTrailingZeros_95d88_14 : decode cJ13_numberOfTrailingZeros_95d88 14 = .ok (.invokestatic 311, 3) := by decide +kernel
theorem dr_cJ13_numberOfTrailingZeros_95d88_17 : decode cJ13_numberOfTrailingZeros_95d88 17 = .ok (.iadd, 1) := by decide +kernel
theorem dr_cJ13_numberOfTrailingZeros_95d88_18 : decode cJ13_numberOfTrailingZeros_95d88 18 = .ok (.goto 7, 3) := by decide +kernel
theorem dr_cX14_isDigit_0 : decode cX14_isDigit 0 = .ok (.iload_n 0, 1) := by decide +kernel
theorem dr_cX14_isDigit_1 : decode cX14_isDigit 1 = .ok (.bipush 48, 2) := by decide +kernel
theorem dr_cX14_isDigit_3 : decode cX14_isDigit 3 = .ok (.if_icmp .lt 13, 3) := by decide +kernel
theorem dr_cX14_isDigit_16 : decode cX14_isDigit 16 = .ok (.iconst 0, 1) := by decide +kernel
theorem dr_cX14_isDigit_17 : decode cX14_isDigit 17 = .ok (.ireturn, 1) := by decide +kernel
theorem dr_cX14_isDigit_6 : decode cX14_isDigit 6 = .ok (.iload_n 0, 1) := by decide +kernel
theorem dr_cX14_isDigit_7 : decode cX14_isDigit 7 = .ok (.bipush 57, 2) := by decide +kernel
theorem dr_cX14_isDigit_9 : decode cX14_isDigit 9 = .ok (.if_icmp .gt 7, 3) := by decide +kernel
theorem dr_cX14_isDigit_12 : decode cX14_isDigit 12 = .ok (.iconst 1, 1) := by decide +kernel
theorem dr_cX14_isDigit_13 : decode cX14_isDigit 13 = .ok (.goto 4, 3) := by decide +kernel
theorem dr_cX14_isLetter_0 : decode cX14_isLetter 0 = .ok (.iload_n 0, 1) := by decide +kernel
theorem dr_cX14_isLetter_1 : decode cX14_isLetter 1 = .ok (.bipush 97, 2) := by decide +kernel
theorem dr_cX14_isLetter_3 : decode cX14_isLetter 3 = .ok (.if_icmp .lt 13, 3) := by decide +kernel
theorem dr_cX14_isLetter_16 : decode cX14_isLetter 16 = .ok (.iconst 0, 1) := by decide +kernel
theorem dr_cX14_isLetter_17 : decode cX14_isLetter 17 = .ok (.ireturn, 1) := by decide +kernel
theorem dr_cX14_isLetter_6 : decode cX14_isLetter 6 = .ok (.iload_n 0, 1) := by decide +kernel
theorem dr_cX14_isLetter_7 : decode cX14_isLetter 7 = .ok (.bipush 122, 2) := by decide +kernel
theorem dr_cX14_isLetter_9 : decode cX14_isLetter 9 = .ok (.if_icmp .gt 7, 3) := by decide +kernel
theorem dr_cX14_isLetter_12 : decode cX14_isLetter 12 = .ok (.iconst 1, 1) := by decide +kernel
theorem dr_cX14_isLetter_13 : decode cX14_isLetter 13 = .ok (.goto 4, 3) := by decide +kernel
abbrev ky_2103_Integer_numberOfTrailingZeros : gKey := (cJ6_numberOfTrailingZeros_0f7a4, 2, "java/lang/Integer", (some FieldType.int), [], "numberOfTrailingZeros", fun _ _ => True)
def pp_2103_Integer_numberOfTrailingZeros (D : va_G) (I : FieldType → ClassId) (P2100 : List Nat) (F2101 : Nat → va_E) (p2102 : Int32) : Option Value → va_W → Nat → Nat → Prop := fun r w dc ds => ∃ (o2203 : Int32), r = some (.int o2203) ∧ w = va_pl P2100 F2101 ∧ dc ≤ 0 ∧ ds ≤ 0
set_option maxRecDepth 100000 in
set_option maxHeartbeats 4000000 in
theorem cp_2103_Integer_numberOfTrailingZeros (l : Launch) (hl0 : l.stackTraces = false) (D : va_G) (I : FieldType → ClassId) (P2100 : List Nat) (F2101 : Nat → va_E) (p2102 : Int32)  : CtA (gV D I) l yJ6_numberOfTrailingZeros_0f7a4 cJ6_numberOfTrailingZeros_0f7a4 2 (some FieldType.int) 0 0 0 0 [.int p2102] (va_pl P2100 F2101) (pp_2103_Integer_numberOfTrailingZeros D I P2100 F2101 p2102) gNA := by
  refine CtA_ofF hl0 (by decide +kernel) (Nat.le_of_ble_eq_true rfl) ?_
  have bp2102 := gB_any p2102
  refine G_iload_n 0 dr_cJ6_numberOfTrailingZeros_0f7a4_0 rfl ?_
  refine G_iconst (-1) dr_cJ6_numberOfTrailingZeros_0f7a4_1 (by decide +kernel) ?_
  refine G_ixor dr_cJ6_numberOfTrailingZeros_0f7a4_2 (G_nam fun z2104 hz2104 => ?_)
  have bz2104 : gB z2104 (-2147483648) 2147483647 := gB_any z2104
  refine G_iload_n 0 dr_cJ6_numberOfTrailingZeros_0f7a4_3 rfl ?_
  refine G_iconst 1 dr_cJ6_numberOfTrailingZeros_0f7a4_4 (by decide +kernel) ?_
  refine G_isub dr_cJ6_numberOfTrailingZeros_0f7a4_5 (G_nam fun z2105 hz2105 => ?_)
  have bz2105 : gB z2105 (-2147483648) 2147483647 := gB_any z2105
  refine G_iand dr_cJ6_numberOfTrailingZeros_0f7a4_6 (G_nam fun z2106 hz2106 => ?_)
  have bz2106 : gB z2106 (-2147483648) 2147483647 := gB_any z2106
  refine G_istore_n (L' := [(0, .int z2106)]) dr_cJ6_numberOfTrailingZeros_0f7a4_7 (Nat.le_of_ble_eq_true rfl) rfl ?_
  refine G_iload_n 0 dr_cJ6_numberOfTrailingZeros_0f7a4_8 rfl ?_
  refine G_if_gt 17 dr_cJ6_numberOfTrailingZeros_0f7a4_9 (by decide +kernel) (fun hc2107 => ?_) (fun hc2107 => ?_)
  · have r2108 : 0 < z2106.toInt := gj_ltL hc2107 (show Int32.toInt 0 = 0 by decide)
    have bz2106' : gB z2106 1 2147483647 := ⟨by omega, by omega⟩
    refine G_iconst 1 dr_cJ6_numberOfTrailingZeros_0f7a4_17 (by decide +kernel) ?_
    refine G_istore_n (L' := [(1, .int 1), (0, .int z2106)]) dr_cJ6_numberOfTrailingZeros_0f7a4_18 (Nat.le_of_ble_eq_true rfl) rfl ?_
    refine G_iload_n 1 dr_cJ6_numberOfTrailingZeros_0f7a4_19 rfl ?_
    refine G_ldcw 65536 dr_cJ6_numberOfTrailingZeros_0f7a4_20 wr_11_7 ?_
    refine G_icmp_le 34 dr_cJ6_numberOfTrailingZeros_0f7a4_23 (by decide +kernel) (fun hc2109 => ?_) (fun hc2109 => ?_)
    · have r2110 : z2106.toInt ≤ 65536 := gj_le hc2109 (show Int32.toInt 65536 = 65536 by decide)
      have bz2106'' : gB z2106 1 65536 := ⟨by omega, by omega⟩
      refine G_iload_n 1 dr_cJ6_numberOfTrailingZeros_0f7a4_34 rfl ?_
      refine G_sipush 256 dr_cJ6_numberOfTrailingZeros_0f7a4_35 (by decide +kernel) ?_
      refine G_icmp_le 49 dr_cJ6_numberOfTrailingZeros_0f7a4_38 (by decide +kernel) (fun hc2111 => ?_) (fun hc2111 => ?_)
      · have r2112 : z2106.toInt ≤ 256 := gj_le hc2111 (show Int32.toInt 256 = 256 by decide)
        have bz2106''' : gB z2106 1 256 := ⟨by omega, by omega⟩
        refine G_iload_n 1 dr_cJ6_numberOfTrailingZeros_0f7a4_49 rfl ?_
        refine G_bipush 16 dr_cJ6_numberOfTrailingZeros_0f7a4_50 (by decide +kernel) ?_
        refine G_icmp_le 62 dr_cJ6_numberOfTrailingZeros_0f7a4_52 (by decide +kernel) (fun hc2113 => ?_) (fun hc2113 => ?_)
        · have r2114 : z2106.toInt ≤ 16 := gj_le hc2113 (show Int32.toInt 16 = 16 by decide)
          have bz2106'''' : gB z2106 1 16 := ⟨by omega, by omega⟩
          refine G_iload_n 1 dr_cJ6_numberOfTrailingZeros_0f7a4_62 rfl ?_
          refine G_iconst 4 dr_cJ6_numberOfTrailingZeros_0f7a4_63 (by decide +kernel) ?_
          refine G_icmp_le 74 dr_cJ6_numberOfTrailingZeros_0f7a4_64 (by decide +kernel) (fun hc2115 => ?_) (fun hc2115 => ?_)
          · have r2116 : z2106.toInt ≤ 4 := gj_le hc2115 (show Int32.toInt 4 = 4 by decide)
            have bz2106''''' : gB z2106 1 4 := ⟨by omega, by omega⟩
            refine G_iload_n 0 dr_cJ6_numberOfTrailingZeros_0f7a4_74 rfl ?_
            refine G_iload_n 1 dr_cJ6_numberOfTrailingZeros_0f7a4_75 rfl ?_
            refine G_iconst 1 dr_cJ6_numberOfTrailingZeros_0f7a4_76 (by decide +kernel) ?_
            refine G_iushr dr_cJ6_numberOfTrailingZeros_0f7a4_77 (G_nam fun z2117 hz2117 => ?_)
            have bz2117 : gB z2117 (-2147483648) 2147483647 := gB_any z2117
            refine G_iadd dr_cJ6_numberOfTrailingZeros_0f7a4_78 (G_nam fun z2118 hz2118 => ?_)
            have bz2118 : gB z2118 (-2147483648) 2147483647 := gB_any z2118
            exact G_iretA dr_cJ6_numberOfTrailingZeros_0f7a4_79 rfl (Nat.le_of_ble_eq_true rfl) (Nat.le_of_ble_eq_true rfl) ⟨z2118, rfl, rfl, (Nat.le_of_ble_eq_true rfl), (Nat.le_of_ble_eq_true rfl)⟩
          · have r2119 : 4 < z2106.toInt := gj_nle hc2115 (show Int32.toInt 4 = 4 by decide)
            have bz2106''''' : gB z2106 5 16 := ⟨by omega, by omega⟩
            refine G_iinc (L' := [(1, .int 3), (0, .int z2106)]) (3) 0 dr_cJ6_numberOfTrailingZeros_0f7a4_67 rfl (by decide) (Nat.le_of_ble_eq_true rfl) rfl ?_
            refine G_iload_n 1 dr_cJ6_numberOfTrailingZeros_0f7a4_70 rfl ?_
            refine G_iconst 2 dr_cJ6_numberOfTrailingZeros_0f7a4_71 (by decide +kernel) ?_
            refine G_iushr dr_cJ6_numberOfTrailingZeros_0f7a4_72 (G_nam fun z2120 hz2120 => ?_)
            have bz2120 : gB z2120 (-2147483648) 2147483647 := gB_any z2120
            refine G_istore_n (L' := [(0, .int z2120), (1, .int 3)]) dr_cJ6_numberOfTrailingZeros_0f7a4_73 (Nat.le_of_ble_eq_true rfl) rfl ?_
            refine G_iload_n 1 dr_cJ6_numberOfTrailingZeros_0f7a4_74 rfl ?_
            refine G_iload_n 0 dr_cJ6_numberOfTrailingZeros_0f7a4_75 rfl ?_
            refine G_iconst 1 dr_cJ6_numberOfTrailingZeros_0f7a4_76 (by decide +kernel) ?_
            refine G_iushr dr_cJ6_numberOfTrailingZeros_0f7a4_77 (G_nam fun z2121 hz2121 => ?_)
            have bz2121 : gB z2121 (-2147483648) 2147483647 := gB_any z2121
            refine G_iadd dr_cJ6_numberOfTrailingZeros_0f7a4_78 (G_nam fun z2122 hz2122 => ?_)
            have bz2122 : gB z2122 (-2147483648) 2147483647 := gB_any z2122
            exact G_iretA dr_cJ6_numberOfTrailingZeros_0f7a4_79 rfl (Nat.le_of_ble_eq_true rfl) (Nat.le_of_ble_eq_true rfl) ⟨z2122, rfl, rfl, (Nat.le_of_ble_eq_true rfl), (Nat.le_of_ble_eq_true rfl)⟩
        · have r2123 : 16 < z2106.toInt := gj_nle hc2113 (show Int32.toInt 16 = 16 by decide)
          have bz2106'''' : gB z2106 17 256 := ⟨by omega, by omega⟩
          refine G_iinc (L' := [(1, .int 5), (0, .int z2106)]) (5) 0 dr_cJ6_numberOfTrailingZeros_0f7a4_55 rfl (by decide) (Nat.le_of_ble_eq_true rfl) rfl ?_
          refine G_iload_n 1 dr_cJ6_numberOfTrailingZeros_0f7a4_58 rfl ?_
          refine G_iconst 4 dr_cJ6_numberOfTrailingZeros_0f7a4_59 (by decide +kernel) ?_
          refine G_iushr dr_cJ6_numberOfTrailingZeros_0f7a4_60 (G_nam fun z2124 hz2124 => ?_)
          have bz2124 : gB z2124 (-2147483648) 2147483647 := gB_any z2124
          refine G_istore_n (L' := [(0, .int z2124), (1, .int 5)]) dr_cJ6_numberOfTrailingZeros_0f7a4_61 (Nat.le_of_ble_eq_true rfl) rfl ?_
          refine G_iload_n 0 dr_cJ6_numberOfTrailingZeros_0f7a4_62 rfl ?_
          refine G_iconst 4 dr_cJ6_numberOfTrailingZeros_0f7a4_63 (by decide +kernel) ?_
          refine G_icmp_le 74 dr_cJ6_numberOfTrailingZeros_0f7a4_64 (by decide +kernel) (fun hc2125 => ?_) (fun hc2125 => ?_)
          · have r2126 : z2124.toInt ≤ 4 := gj_le hc2125 (show Int32.toInt 4 = 4 by decide)
            have bz2124' : gB z2124 (-2147483648) 4 := ⟨by omega, by omega⟩
            refine G_iload_n 1 dr_cJ6_numberOfTrailingZeros_0f7a4_74 rfl ?_
            refine G_iload_n 0 dr_cJ6_numberOfTrailingZeros_0f7a4_75 rfl ?_
            refine G_iconst 1 dr_cJ6_numberOfTrailingZeros_0f7a4_76 (by decide +kernel) ?_
            refine G_iushr dr_cJ6_numberOfTrailingZeros_0f7a4_77 (G_nam fun z2127 hz2127 => ?_)
            have bz2127 : gB z2127 (-2147483648) 2147483647 := gB_any z2127
            refine G_iadd dr_cJ6_numberOfTrailingZeros_0f7a4_78 (G_nam fun z2128 hz2128 => ?_)
            have bz2128 : gB z2128 (-2147483648) 2147483647 := gB_any z2128
            exact G_iretA dr_cJ6_numberOfTrailingZeros_0f7a4_79 rfl (Nat.le_of_ble_eq_true rfl) (Nat.le_of_ble_eq_true rfl) ⟨z2128, rfl, rfl, (Nat.le_of_ble_eq_true rfl), (Nat.le_of_ble_eq_true rfl)⟩
          · have r2129 : 4 < z2124.toInt := gj_nle hc2125 (show Int32.toInt 4 = 4 by decide)
            have bz2124' : gB z2124 5 2147483647 := ⟨by omega, by omega⟩
            refine G_iinc (L' := [(1, .int 7), (0, .int z2124)]) (7) 1 dr_cJ6_numberOfTrailingZeros_0f7a4_67 rfl (by decide) (Nat.le_of_ble_eq_true rfl) rfl ?_
            refine G_iload_n 1 dr_cJ6_numberOfTrailingZeros_0f7a4_70 rfl ?_
            refine G_iconst 2 dr_cJ6_numberOfTrailingZeros_0f7a4_71 (by decide +kernel) ?_
            refine G_iushr dr_cJ6_numberOfTrailingZeros_0f7a4_72 (G_nam fun z2130 hz2130 => ?_)
            have bz2130 : gB z2130 (-2147483648) 2147483647 := gB_any z2130
            refine G_istore_n (L' := [(0, .int z2130), (1, .int 7)]) dr_cJ6_numberOfTrailingZeros_0f7a4_73 (Nat.le_of_ble_eq_true rfl) rfl ?_
            refine G_iload_n 1 dr_cJ6_numberOfTrailingZeros_0f7a4_74 rfl ?_
            refine G_iload_n 0 dr_cJ6_numberOfTrailingZeros_0f7a4_75 rfl ?_
            refine G_iconst 1 dr_cJ6_numberOfTrailingZeros_0f7a4_76 (by decide +kernel) ?_
            refine G_iushr dr_cJ6_numberOfTrailingZeros_0f7a4_77 (G_nam fun z2131 hz2131 => ?_)
            have bz2131 : gB z2131 (-2147483648) 2147483647 := gB_any z2131
            refine G_iadd dr_cJ6_numberOfTrailingZeros_0f7a4_78 (G_nam fun z2132 hz2132 => ?_)
            have bz2132 : gB z2132 (-2147483648) 2147483647 := gB_any z2132
            exact G_iretA dr_cJ6_numberOfTrailingZeros_0f7a4_79 rfl (Nat.le_of_ble_eq_true rfl) (Nat.le_of_ble_eq_true rfl) ⟨z2132, rfl, rfl, (Nat.le_of_ble_eq_true rfl), (Nat.le_of_ble_eq_true rfl)⟩
      · have r2133 : 256 < z2106.toInt := gj_nle hc2111 (show Int32.toInt 256 = 256 by decide)
        have bz2106''' : gB z2106 257 65536 := ⟨by omega, by omega⟩
        refine G_iinc (L' := [(1, .int 9), (0, .int z2106)]) (9) 0 dr_cJ6_numberOfTrailingZeros_0f7a4_41 rfl (by decide) (Nat.le_of_ble_eq_true rfl) rfl ?_
        refine G_iload_n 1 dr_cJ6_numberOfTrailingZeros_0f7a4_44 rfl ?_
        refine G_bipush 8 dr_cJ6_numberOfTrailingZeros_0f7a4_45 (by decide +kernel) ?_
        refine G_iushr dr_cJ6_numberOfTrailingZeros_0f7a4_47 (G_nam fun z2134 hz2134 => ?_)
        have bz2134 : gB z2134 (-2147483648) 2147483647 := gB_any z2134
        refine G_istore_n (L' := [(0, .int z2134), (1, .int 9)]) dr_cJ6_numberOfTrailingZeros_0f7a4_48 (Nat.le_of_ble_eq_true rfl) rfl ?_
        refine G_iload_n 0 dr_cJ6_numberOfTrailingZeros_0f7a4_49 rfl ?_
        refine G_bipush 16 dr_cJ6_numberOfTrailingZeros_0f7a4_50 (by decide +kernel) ?_
        refine G_icmp_le 62 dr_cJ6_numberOfTrailingZeros_0f7a4_52 (by decide +kernel) (fun hc2135 => ?_) (fun hc2135 => ?_)
        · have r2136 : z2134.toInt ≤ 16 := gj_le hc2135 (show Int32.toInt 16 = 16 by decide)
          have bz2134' : gB z2134 (-2147483648) 16 := ⟨by omega, by omega⟩
          refine G_iload_n 0 dr_cJ6_numberOfTrailingZeros_0f7a4_62 rfl ?_
          refine G_iconst 4 dr_cJ6_numberOfTrailingZeros_0f7a4_63 (by decide +kernel) ?_
          refine G_icmp_le 74 dr_cJ6_numberOfTrailingZeros_0f7a4_64 (by decide +kernel) (fun hc2137 => ?_) (fun hc2137 => ?_)
          · have r2138 : z2134.toInt ≤ 4 := gj_le hc2137 (show Int32.toInt 4 = 4 by decide)
            have bz2134'' : gB z2134 (-2147483648) 4 := ⟨by omega, by omega⟩
            refine G_iload_n 1 dr_cJ6_numberOfTrailingZeros_0f7a4_74 rfl ?_
            refine G_iload_n 0 dr_cJ6_numberOfTrailingZeros_0f7a4_75 rfl ?_
            refine G_iconst 1 dr_cJ6_numberOfTrailingZeros_0f7a4_76 (by decide +kernel) ?_
            refine G_iushr dr_cJ6_numberOfTrailingZeros_0f7a4_77 (G_nam fun z2139 hz2139 => ?_)
            have bz2139 : gB z2139 (-2147483648) 2147483647 := gB_any z2139
            refine G_iadd dr_cJ6_numberOfTrailingZeros_0f7a4_78 (G_nam fun z2140 hz2140 => ?_)
            have bz2140 : gB z2140 (-2147483648) 2147483647 := gB_any z2140
            exact G_iretA dr_cJ6_numberOfTrailingZeros_0f7a4_79 rfl (Nat.le_of_ble_eq_true rfl) (Nat.le_of_ble_eq_true rfl) ⟨z2140, rfl, rfl, (Nat.le_of_ble_eq_true rfl), (Nat.le_of_ble_eq_true rfl)⟩
          · have r2141 : 4 < z2134.toInt := gj_nle hc2137 (show Int32.toInt 4 = 4 by decide)
            have bz2134'' : gB z2134 5 16 := ⟨by omega, by omega⟩
            refine G_iinc (L' := [(1, .int 11), (0, .int z2134)]) (11) 1 dr_cJ6_numberOfTrailingZeros_0f7a4_67 rfl (by decide) (Nat.le_of_ble_eq_true rfl) rfl ?_
            refine G_iload_n 1 dr_cJ6_numberOfTrailingZeros_0f7a4_70 rfl ?_
            refine G_iconst 2 dr_cJ6_numberOfTrailingZeros_0f7a4_71 (by decide +kernel) ?_
            refine G_iushr dr_cJ6_numberOfTrailingZeros_0f7a4_72 (G_nam fun z2142 hz2142 => ?_)
            have bz2142 : gB z2142 (-2147483648) 2147483647 := gB_any z2142
            refine G_istore_n (L' := [(0, .int z2142), (1, .int 11)]) dr_cJ6_numberOfTrailingZeros_0f7a4_73 (Nat.le_of_ble_eq_true rfl) rfl ?_
            refine G_iload_n 1 dr_cJ6_numberOfTrailingZeros_0f7a4_74 rfl ?_
            refine G_iload_n 0 dr_cJ6_numberOfTrailingZeros_0f7a4_75 rfl ?_
            refine G_iconst 1 dr_cJ6_numberOfTrailingZeros_0f7a4_76 (by decide +kernel) ?_
            refine G_iushr dr_cJ6_numberOfTrailingZeros_0f7a4_77 (G_nam fun z2143 hz2143 => ?_)
            have bz2143 : gB z2143 (-2147483648) 2147483647 := gB_any z2143
            refine G_iadd dr_cJ6_numberOfTrailingZeros_0f7a4_78 (G_nam fun z2144 hz2144 => ?_)
            have bz2144 : gB z2144 (-2147483648) 2147483647 := gB_any z2144
            exact G_iretA dr_cJ6_numberOfTrailingZeros_0f7a4_79 rfl (Nat.le_of_ble_eq_true rfl) (Nat.le_of_ble_eq_true rfl) ⟨z2144, rfl, rfl, (Nat.le_of_ble_eq_true rfl), (Nat.le_of_ble_eq_true rfl)⟩
        · have r2145 : 16 < z2134.toInt := gj_nle hc2135 (show Int32.toInt 16 = 16 by decide)
          have bz2134' : gB z2134 17 2147483647 := ⟨by omega, by omega⟩
          refine G_iinc (L' := [(1, .int 13), (0, .int z2134)]) (13) 1 dr_cJ6_numberOfTrailingZeros_0f7a4_55 rfl (by decide) (Nat.le_of_ble_eq_true rfl) rfl ?_
          refine G_iload_n 1 dr_cJ6_numberOfTrailingZeros_0f7a4_58 rfl ?_
          refine G_iconst 4 dr_cJ6_numberOfTrailingZeros_0f7a4_59 (by decide +kernel) ?_
          refine G_iushr dr_cJ6_numberOfTrailingZeros_0f7a4_60 (G_nam fun z2146 hz2146 => ?_)
          have bz2146 : gB z2146 (-2147483648) 2147483647 := gB_any z2146
          refine G_istore_n (L' := [(0, .int z2146), (1, .int 13)]) dr_cJ6_numberOfTrailingZeros_0f7a4_61 (Nat.le_of_ble_eq_true rfl) rfl ?_
          refine G_iload_n 0 dr_cJ6_numberOfTrailingZeros_0f7a4_62 rfl ?_
          refine G_iconst 4 dr_cJ6_numberOfTrailingZeros_0f7a4_63 (by decide +kernel) ?_
          refine G_icmp_le 74 dr_cJ6_numberOfTrailingZeros_0f7a4_64 (by decide +kernel) (fun hc2147 => ?_) (fun hc2147 => ?_)
          · have r2148 : z2146.toInt ≤ 4 := gj_le hc2147 (show Int32.toInt 4 = 4 by decide)
            have bz2146' : gB z2146 (-2147483648) 4 := ⟨by omega, by omega⟩
            refine G_iload_n 1 dr_cJ6_numberOfTrailingZeros_0f7a4_74 rfl ?_
            refine G_iload_n 0 dr_cJ6_numberOfTrailingZeros_0f7a4_75 rfl ?_
            refine G_iconst 1 dr_cJ6_numberOfTrailingZeros_0f7a4_76 (by decide +kernel) ?_
            refine G_iushr dr_cJ6_numberOfTrailingZeros_0f7a4_77 (G_nam fun z2149 hz2149 => ?_)
            have bz2149 : gB z2149 (-2147483648) 2147483647 := gB_any z2149
            refine G_iadd dr_cJ6_numberOfTrailingZeros_0f7a4_78 (G_nam fun z2150 hz2150 => ?_)
            have bz2150 : gB z2150 (-2147483648) 2147483647 := gB_any z2150
            exact G_iretA dr_cJ6_numberOfTrailingZeros_0f7a4_79 rfl (Nat.le_of_ble_eq_true rfl) (Nat.le_of_ble_eq_true rfl) ⟨z2150, rfl, rfl, (Nat.le_of_ble_eq_true rfl), (Nat.le_of_ble_eq_true rfl)⟩
          · have r2151 : 4 < z2146.toInt := gj_nle hc2147 (show Int32.toInt 4 = 4 by decide)
            have bz2146' : gB z2146 5 2147483647 := ⟨by omega, by omega⟩
            refine G_iinc (L' := [(1, .int 15), (0, .int z2146)]) (15) 1 dr_cJ6_numberOfTrailingZeros_0f7a4_67 rfl (by decide) (Nat.le_of_ble_eq_true rfl) rfl ?_
            refine G_iload_n 1 dr_cJ6_numberOfTrailingZeros_0f7a4_70 rfl ?_
            refine G_iconst 2 dr_cJ6_numberOfTrailingZeros_0f7a4_71 (by decide +kernel) ?_
            refine G_iushr dr_cJ6_numberOfTrailingZeros_0f7a4_72 (G_nam fun z2152 hz2152 => ?_)
            have bz2152 : gB z2152 (-2147483648) 2147483647 := gB_any z2152
            refine G_istore_n (L' := [(0, .int z2152), (1, .int 15)]) dr_cJ6_numberOfTrailingZeros_0f7a4_73 (Nat.le_of_ble_eq_true rfl) rfl ?_
            refine G_iload_n 1 dr_cJ6_numberOfTrailingZeros_0f7a4_74 rfl ?_
            refine G_iload_n 0 dr_cJ6_numberOfTrailingZeros_0f7a4_75 rfl ?_
            refine G_iconst 1 dr_cJ6_numberOfTrailingZeros_0f7a4_76 (by decide +kernel) ?_
            refine G_iushr dr_cJ6_numberOfTrailingZeros_0f7a4_77 (G_nam fun z2153 hz2153 => ?_)
            have bz2153 : gB z2153 (-2147483648) 2147483647 := gB_any z2153
            refine G_iadd dr_cJ6_numberOfTrailingZeros_0f7a4_78 (G_nam fun z2154 hz2154 => ?_)
            have bz2154 : gB z2154 (-2147483648) 2147483647 := gB_any z2154
            exact G_iretA dr_cJ6_numberOfTrailingZeros_0f7a4_79 rfl (Nat.le_of_ble_eq_true rfl) (Nat.le_of_ble_eq_true rfl) ⟨z2154, rfl, rfl, (Nat.le_of_ble_eq_true rfl), (Nat.le_of_ble_eq_true rfl)⟩
    · have r2155 : 65536 < z2106.toInt := gj_nle hc2109 (show Int32.toInt 65536 = 65536 by decide)
      have bz2106'' : gB z2106 65537 2147483647 := ⟨by omega, by omega⟩
      refine G_iinc (L' := [(1, .int 17), (0, .int z2106)]) (17) 0 dr_cJ6_numberOfTrailingZeros_0f7a4_26 rfl (by decide) (Nat.le_of_ble_eq_true rfl) rfl ?_
      refine G_iload_n 1 dr_cJ6_numberOfTrailingZeros_0f7a4_29 rfl ?_
      refine G_bipush 16 dr_cJ6_numberOfTrailingZeros_0f7a4_30 (by decide +kernel) ?_
      refine G_iushr dr_cJ6_numberOfTrailingZeros_0f7a4_32 (G_nam fun z2156 hz2156 => ?_)
      have bz2156 : gB z2156 (-2147483648) 2147483647 := gB_any z2156
      refine G_istore_n (L' := [(0, .int z2156), (1, .int 17)]) dr_cJ6_numberOfTrailingZeros_0f7a4_33 (Nat.le_of_ble_eq_true rfl) rfl ?_
      refine G_iload_n 0 dr_cJ6_numberOfTrailingZeros_0f7a4_34 rfl ?_
      refine G_sipush 256 dr_cJ6_numberOfTrailingZeros_0f7a4_35 (by decide +kernel) ?_
      refine G_icmp_le 49 dr_cJ6_numberOfTrailingZeros_0f7a4_38 (by decide +kernel) (fun hc2157 => ?_) (fun hc2157 => ?_)
      · have r2158 : z2156.toInt ≤ 256 := gj_le hc2157 (show Int32.toInt 256 = 256 by decide)
        have bz2156' : gB z2156 (-2147483648) 256 := ⟨by omega, by omega⟩
        refine G_iload_n 0 dr_cJ6_numberOfTrailingZeros_0f7a4_49 rfl ?_
        refine G_bipush 16 dr_cJ6_numberOfTrailingZeros_0f7a4_50 (by decide +kernel) ?_
        refine G_icmp_le 62 dr_cJ6_numberOfTrailingZeros_0f7a4_52 (by decide +kernel) (fun hc2159 => ?_) (fun hc2159 => ?_)
        · have r2160 : z2156.toInt ≤ 16 := gj_le hc2159 (show Int32.toInt 16 = 16 by decide)
          have bz2156'' : gB z2156 (-2147483648) 16 := ⟨by omega, by omega⟩
          refine G_iload_n 0 dr_cJ6_numberOfTrailingZeros_0f7a4_62 rfl ?_
          refine G_iconst 4 dr_cJ6_numberOfTrailingZeros_0f7a4_63 (by decide +kernel) ?_
          refine G_icmp_le 74 dr_cJ6_numberOfTrailingZeros_0f7a4_64 (by decide +kernel) (fun hc2161 => ?_) (fun hc2161 => ?_)
          · have r2162 : z2156.toInt ≤ 4 := gj_le hc2161 (show Int32.toInt 4 = 4 by decide)
            have bz2156''' : gB z2156 (-2147483648) 4 := ⟨by omega, by omega⟩
            refine G_iload_n 1 dr_cJ6_numberOfTrailingZeros_0f7a4_74 rfl ?_
            refine G_iload_n 0 dr_cJ6_numberOfTrailingZeros_0f7a4_75 rfl ?_
            refine G_iconst 1 dr_cJ6_numberOfTrailingZeros_0f7a4_76 (by decide +kernel) ?_
            refine G_iushr dr_cJ6_numberOfTrailingZeros_0f7a4_77 (G_nam fun z2163 hz2163 => ?_)
            have bz2163 : gB z2163 (-2147483648) 2147483647 := gB_any z2163
            refine G_iadd dr_cJ6_numberOfTrailingZeros_0f7a4_78 (G_nam fun z2164 hz2164 => ?_)
            have bz2164 : gB z2164 (-2147483648) 2147483647 := gB_any z2164
            exact G_iretA dr_cJ6_numberOfTrailingZeros_0f7a4_79 rfl (Nat.le_of_ble_eq_true rfl) (Nat.le_of_ble_eq_true rfl) ⟨z2164, rfl, rfl, (Nat.le_of_ble_eq_true rfl), (Nat.le_of_ble_eq_true rfl)⟩
          · have r2165 : 4 < z2156.toInt := gj_nle hc2161 (show Int32.toInt 4 = 4 by decide)
            have bz2156''' : gB z2156 5 16 := ⟨by omega, by omega⟩
            refine G_iinc (L' := [(1, .int 19), (0, .int z2156)]) (19) 1 dr_cJ6_numberOfTrailingZeros_0f7a4_67 rfl (by decide) (Nat.le_of_ble_eq_true rfl) rfl ?_
            refine G_iload_n 1 dr_cJ6_numberOfTrailingZeros_0f7a4_70 rfl ?_
            refine G_iconst 2 dr_cJ6_numberOfTrailingZeros_0f7a4_71 (by decide +kernel) ?_
            refine G_iushr dr_cJ6_numberOfTrailingZeros_0f7a4_72 (G_nam fun z2166 hz2166 => ?_)
            have bz2166 : gB z2166 (-2147483648) 2147483647 := gB_any z2166
            refine G_istore_n (L' := [(0, .int z2166), (1, .int 19)]) dr_cJ6_numberOfTrailingZeros_0f7a4_73 (Nat.le_of_ble_eq_true rfl) rfl ?_
            refine G_iload_n 1 dr_cJ6_numberOfTrailingZeros_0f7a4_74 rfl ?_
            refine G_iload_n 0 dr_cJ6_numberOfTrailingZeros_0f7a4_75 rfl ?_
            refine G_iconst 1 dr_cJ6_numberOfTrailingZeros_0f7a4_76 (by decide +kernel) ?_
            refine G_iushr dr_cJ6_numberOfTrailingZeros_0f7a4_77 (G_nam fun z2167 hz2167 => ?_)
            have bz2167 : gB z2167 (-2147483648) 2147483647 := gB_any z2167
            refine G_iadd dr_cJ6_numberOfTrailingZeros_0f7a4_78 (G_nam fun z2168 hz2168 => ?_)
            have bz2168 : gB z2168 (-2147483648) 2147483647 := gB_any z2168
            exact G_iretA dr_cJ6_numberOfTrailingZeros_0f7a4_79 rfl (Nat.le_of_ble_eq_true rfl) (Nat.le_of_ble_eq_true rfl) ⟨z2168, rfl, rfl, (Nat.le_of_ble_eq_true rfl), (Nat.le_of_ble_eq_true rfl)⟩
        · have r2169 : 16 < z2156.toInt := gj_nle hc2159 (show Int32.toInt 16 = 16 by decide)
          have bz2156'' : gB z2156 17 256 := ⟨by omega, by omega⟩
          refine G_iinc (L' := [(1, .int 21), (0, .int z2156)]) (21) 1 dr_cJ6_numberOfTrailingZeros_0f7a4_55 rfl (by decide) (Nat.le_of_ble_eq_true rfl) rfl ?_
          refine G_iload_n 1 dr_cJ6_numberOfTrailingZeros_0f7a4_58 rfl ?_
          refine G_iconst 4 dr_cJ6_numberOfTrailingZeros_0f7a4_59 (by decide +kernel) ?_
          refine G_iushr dr_cJ6_numberOfTrailingZeros_0f7a4_60 (G_nam fun z2170 hz2170 => ?_)
          have bz2170 : gB z2170 (-2147483648) 2147483647 := gB_any z2170
          refine G_istore_n (L' := [(0, .int z2170), (1, .int 21)]) dr_cJ6_numberOfTrailingZeros_0f7a4_61 (Nat.le_of_ble_eq_true rfl) rfl ?_
          refine G_iload_n 0 dr_cJ6_numberOfTrailingZeros_0f7a4_62 rfl ?_
          refine G_iconst 4 dr_cJ6_numberOfTrailingZeros_0f7a4_63 (by decide +kernel) ?_
          refine G_icmp_le 74 dr_cJ6_numberOfTrailingZeros_0f7a4_64 (by decide +kernel) (fun hc2171 => ?_) (fun hc2171 => ?_)
          · have r2172 : z2170.toInt ≤ 4 := gj_le hc2171 (show Int32.toInt 4 = 4 by decide)
            have bz2170' : gB z2170 (-2147483648) 4 := ⟨by omega, by omega⟩
            refine G_iload_n 1 dr_cJ6_numberOfTrailingZeros_0f7a4_74 rfl ?_
            refine G_iload_n 0 dr_cJ6_numberOfTrailingZeros_0f7a4_75 rfl ?_
            refine G_iconst 1 dr_cJ6_numberOfTrailingZeros_0f7a4_76 (by decide +kernel) ?_
            refine G_iushr dr_cJ6_numberOfTrailingZeros_0f7a4_77 (G_nam fun z2173 hz2173 => ?_)
            have bz2173 : gB z2173 (-2147483648) 2147483647 := gB_any z2173
            refine G_iadd dr_cJ6_numberOfTrailingZeros_0f7a4_78 (G_nam fun z2174 hz2174 => ?_)
            have bz2174 : gB z2174 (-2147483648) 2147483647 := gB_any z2174
            exact G_iretA dr_cJ6_numberOfTrailingZeros_0f7a4_79 rfl (Nat.le_of_ble_eq_true rfl) (Nat.le_of_ble_eq_true rfl) ⟨z2174, rfl, rfl, (Nat.le_of_ble_eq_true rfl), (Nat.le_of_ble_eq_true rfl)⟩
          · have r2175 : 4 < z2170.toInt := gj_nle hc2171 (show Int32.toInt 4 = 4 by decide)
            have bz2170' : gB z2170 5 2147483647 := ⟨by omega, by omega⟩
            refine G_iinc (L' := [(1, .int 23), (0, .int z2170)]) (23) 1 dr_cJ6_numberOfTrailingZeros_0f7a4_67 rfl (by decide) (Nat.le_of_ble_eq_true rfl) rfl ?_
            refine G_iload_n 1 dr_cJ6_numberOfTrailingZeros_0f7a4_70 rfl ?_
            refine G_iconst 2 dr_cJ6_numberOfTrailingZeros_0f7a4_71 (by decide +kernel) ?_
            refine G_iushr dr_cJ6_numberOfTrailingZeros_0f7a4_72 (G_nam fun z2176 hz2176 => ?_)
            have bz2176 : gB z2176 (-2147483648) 2147483647 := gB_any z2176
            refine G_istore_n (L' := [(0, .int z2176), (1, .int 23)]) dr_cJ6_numberOfTrailingZeros_0f7a4_73 (Nat.le_of_ble_eq_true rfl) rfl ?_
            refine G_iload_n 1 dr_cJ6_numberOfTrailingZeros_0f7a4_74 rfl ?_
            refine G_iload_n 0 dr_cJ6_numberOfTrailingZeros_0f7a4_75 rfl ?_
            refine G_iconst 1 dr_cJ6_numberOfTrailingZeros_0f7a4_76 (by decide +kernel) ?_
            refine G_iushr dr_cJ6_numberOfTrailingZeros_0f7a4_77 (G_nam fun z2177 hz2177 => ?_)
            have bz2177 : gB z2177 (-2147483648) 2147483647 := gB_any z2177
            refine G_iadd dr_cJ6_numberOfTrailingZeros_0f7a4_78 (G_nam fun z2178 hz2178 => ?_)
            have bz2178 : gB z2178 (-2147483648) 2147483647 := gB_any z2178
            exact G_iretA dr_cJ6_numberOfTrailingZeros_0f7a4_79 rfl (Nat.le_of_ble_eq_true rfl) (Nat.le_of_ble_eq_true rfl) ⟨z2178, rfl, rfl, (Nat.le_of_ble_eq_true rfl), (Nat.le_of_ble_eq_true rfl)⟩
      · have r2179 : 256 < z2156.toInt := gj_nle hc2157 (show Int32.toInt 256 = 256 by decide)
        have bz2156' : gB z2156 257 2147483647 := ⟨by omega, by omega⟩
        refine G_iinc (L' := [(1, .int 25), (0, .int z2156)]) (25) 1 dr_cJ6_numberOfTrailingZeros_0f7a4_41 rfl (by decide) (Nat.le_of_ble_eq_true rfl) rfl ?_
        refine G_iload_n 1 dr_cJ6_numberOfTrailingZeros_0f7a4_44 rfl ?_
        refine G_bipush 8 dr_cJ6_numberOfTrailingZeros_0f7a4_45 (by decide +kernel) ?_
        refine G_iushr dr_cJ6_numberOfTrailingZeros_0f7a4_47 (G_nam fun z2180 hz2180 => ?_)
        have bz2180 : gB z2180 (-2147483648) 2147483647 := gB_any z2180
        refine G_istore_n (L' := [(0, .int z2180), (1, .int 25)]) dr_cJ6_numberOfTrailingZeros_0f7a4_48 (Nat.le_of_ble_eq_true rfl) rfl ?_
        refine G_iload_n 0 dr_cJ6_numberOfTrailingZeros_0f7a4_49 rfl ?_
        refine G_bipush 16 dr_cJ6_numberOfTrailingZeros_0f7a4_50 (by decide +kernel) ?_
        refine G_icmp_le 62 dr_cJ6_numberOfTrailingZeros_0f7a4_52 (by decide +kernel) (fun hc2181 => ?_) (fun hc2181 => ?_)
        · have r2182 : z2180.toInt ≤ 16 := gj_le hc2181 (show Int32.toInt 16 = 16 by decide)
          have bz2180' : gB z2180 (-2147483648) 16 := ⟨by omega, by omega⟩
          refine G_iload_n 0 dr_cJ6_numberOfTrailingZeros_0f7a4_62 rfl ?_
          refine G_iconst 4 dr_cJ6_numberOfTrailingZeros_0f7a4_63 (by decide +kernel) ?_
          refine G_icmp_le 74 dr_cJ6_numberOfTrailingZeros_0f7a4_64 (by decide +kernel) (fun hc2183 => ?_) (fun hc2183 => ?_)
          · have r2184 : z2180.toInt ≤ 4 := gj_le hc2183 (show Int32.toInt 4 = 4 by decide)
            have bz2180'' : gB z2180 (-2147483648) 4 := ⟨by omega, by omega⟩
            refine G_iload_n 1 dr_cJ6_numberOfTrailingZeros_0f7a4_74 rfl ?_
            refine G_iload_n 0 dr_cJ6_numberOfTrailingZeros_0f7a4_75 rfl ?_
            refine G_iconst 1 dr_cJ6_numberOfTrailingZeros_0f7a4_76 (by decide +kernel) ?_
            refine G_iushr dr_cJ6_numberOfTrailingZeros_0f7a4_77 (G_nam fun z2185 hz2185 => ?_)
            have bz2185 : gB z2185 (-2147483648) 2147483647 := gB_any z2185
            refine G_iadd dr_cJ6_numberOfTrailingZeros_0f7a4_78 (G_nam fun z2186 hz2186 => ?_)
            have bz2186 : gB z2186 (-2147483648) 2147483647 := gB_any z2186
            exact G_iretA dr_cJ6_numberOfTrailingZeros_0f7a4_79 rfl (Nat.le_of_ble_eq_true rfl) (Nat.le_of_ble_eq_true rfl) ⟨z2186, rfl, rfl, (Nat.le_of_ble_eq_true rfl), (Nat.le_of_ble_eq_true rfl)⟩
          · have r2187 : 4 < z2180.toInt := gj_nle hc2183 (show Int32.toInt 4 = 4 by decide)
            have bz2180'' : gB z2180 5 16 := ⟨by omega, by omega⟩
            refine G_iinc (L' := [(1, .int 27), (0, .int z2180)]) (27) 1 dr_cJ6_numberOfTrailingZeros_0f7a4_67 rfl (by decide) (Nat.le_of_ble_eq_true rfl) rfl ?_
            refine G_iload_n 1 dr_cJ6_numberOfTrailingZeros_0f7a4_70 rfl ?_
            refine G_iconst 2 dr_cJ6_numberOfTrailingZeros_0f7a4_71 (by decide +kernel) ?_
            refine G_iushr dr_cJ6_numberOfTrailingZeros_0f7a4_72 (G_nam fun z2188 hz2188 => ?_)
            have bz2188 : gB z2188 (-2147483648) 2147483647 := gB_any z2188
            refine G_istore_n (L' := [(0, .int z2188), (1, .int 27)]) dr_cJ6_numberOfTrailingZeros_0f7a4_73 (Nat.le_of_ble_eq_true rfl) rfl ?_
            refine G_iload_n 1 dr_cJ6_numberOfTrailingZeros_0f7a4_74 rfl ?_
            refine G_iload_n 0 dr_cJ6_numberOfTrailingZeros_0f7a4_75 rfl ?_
            refine G_iconst 1 dr_cJ6_numberOfTrailingZeros_0f7a4_76 (by decide +kernel) ?_
            refine G_iushr dr_cJ6_numberOfTrailingZeros_0f7a4_77 (G_nam fun z2189 hz2189 => ?_)
            have bz2189 : gB z2189 (-2147483648) 2147483647 := gB_any z2189
            refine G_iadd dr_cJ6_numberOfTrailingZeros_0f7a4_78 (G_nam fun z2190 hz2190 => ?_)
            have bz2190 : gB z2190 (-2147483648) 2147483647 := gB_any z2190
            exact G_iretA dr_cJ6_numberOfTrailingZeros_0f7a4_79 rfl (Nat.le_of_ble_eq_true rfl) (Nat.le_of_ble_eq_true rfl) ⟨z2190, rfl, rfl, (Nat.le_of_ble_eq_true rfl), (Nat.le_of_ble_eq_true rfl)⟩
        · have r2191 : 16 < z2180.toInt := gj_nle hc2181 (show Int32.toInt 16 = 16 by decide)
          have bz2180' : gB z2180 17 2147483647 := ⟨by omega, by omega⟩
          refine G_iinc (L' := [(1, .int 29), (0, .int z2180)]) (29) 1 dr_cJ6_numberOfTrailingZeros_0f7a4_55 rfl (by decide) (Nat.le_of_ble_eq_true rfl) rfl ?_
          refine G_iload_n 1 dr_cJ6_numberOfTrailingZeros_0f7a4_58 rfl ?_
          refine G_iconst 4 dr_cJ6_numberOfTrailingZeros_0f7a4_59 (by decide +kernel) ?_
          refine G_iushr dr_cJ6_numberOfTrailingZeros_0f7a4_60 (G_nam fun z2192 hz2192 => ?_)
          have bz2192 : gB z2192 (-2147483648) 2147483647 := gB_any z2192
          refine G_istore_n (L' := [(0, .int z2192), (1, .int 29)]) dr_cJ6_numberOfTrailingZeros_0f7a4_61 (Nat.le_of_ble_eq_true rfl) rfl ?_
          refine G_iload_n 0 dr_cJ6_numberOfTrailingZeros_0f7a4_62 rfl ?_
          refine G_iconst 4 dr_cJ6_numberOfTrailingZeros_0f7a4_63 (by decide +kernel) ?_
          refine G_icmp_le 74 dr_cJ6_numberOfTrailingZeros_0f7a4_64 (by decide +kernel) (fun hc2193 => ?_) (fun hc2193 => ?_)
          · have r2194 : z2192.toInt ≤ 4 := gj_le hc2193 (show Int32.toInt 4 = 4 by decide)
            have bz2192' : gB z2192 (-2147483648) 4 := ⟨by omega, by omega⟩
            refine G_iload_n 1 dr_cJ6_numberOfTrailingZeros_0f7a4_74 rfl ?_
            refine G_iload_n 0 dr_cJ6_numberOfTrailingZeros_0f7a4_75 rfl ?_
            refine G_iconst 1 dr_cJ6_numberOfTrailingZeros_0f7a4_76 (by decide +kernel) ?_
            refine G_iushr dr_cJ6_numberOfTrailingZeros_0f7a4_77 (G_nam fun z2195 hz2195 => ?_)
            have bz2195 : gB z2195 (-2147483648) 2147483647 := gB_any z2195
            refine G_iadd dr_cJ6_numberOfTrailingZeros_0f7a4_78 (G_nam fun z2196 hz2196 => ?_)
            have bz2196 : gB z2196 (-2147483648) 2147483647 := gB_any z2196
            exact G_iretA dr_cJ6_numberOfTrailingZeros_0f7a4_79 rfl (Nat.le_of_ble_eq_true rfl) (Nat.le_of_ble_eq_true rfl) ⟨z2196, rfl, rfl, (Nat.le_of_ble_eq_true rfl), (Nat.le_of_ble_eq_true rfl)⟩
          · have r2197 : 4 < z2192.toInt := gj_nle hc2193 (show Int32.toInt 4 = 4 by decide)
            have bz2192' : gB z2192 5 2147483647 := ⟨by omega, by omega⟩
            refine G_iinc (L' := [(1, .int 31), (0, .int z2192)]) (31) 1 dr_cJ6_numberOfTrailingZeros_0f7a4_67 rfl (by decide) (Nat.le_of_ble_eq_true rfl) rfl ?_
            refine G_iload_n 1 dr_cJ6_numberOfTrailingZeros_0f7a4_70 rfl ?_
            refine G_iconst 2 dr_cJ6_numberOfTrailingZeros_0f7a4_71 (by decide +kernel) ?_
            refine G_iushr dr_cJ6_numberOfTrailingZeros_0f7a4_72 (G_nam fun z2198 hz2198 => ?_)
            have bz2198 : gB z2198 (-2147483648) 2147483647 := gB_any z2198
            refine G_istore_n (L' := [(0, .int z2198), (1, .int 31)]) dr_cJ6_numberOfTrailingZeros_0f7a4_73 (Nat.le_of_ble_eq_true rfl) rfl ?_
            refine G_iload_n 1 dr_cJ6_numberOfTrailingZeros_0f7a4_74 rfl ?_
            refine G_iload_n 0 dr_cJ6_numberOfTrailingZeros_0f7a4_75 rfl ?_
            refine G_iconst 1 dr_cJ6_numberOfTrailingZeros_0f7a4_76 (by decide +kernel) ?_
            refine G_iushr dr_cJ6_numberOfTrailingZeros_0f7a4_77 (G_nam fun z2199 hz2199 => ?_)
            have bz2199 : gB z2199 (-2147483648) 2147483647 := gB_any z2199
            refine G_iadd dr_cJ6_numberOfTrailingZeros_0f7a4_78 (G_nam fun z2200 hz2200 => ?_)
            have bz2200 : gB z2200 (-2147483648) 2147483647 := gB_any z2200
            exact G_iretA dr_cJ6_numberOfTrailingZeros_0f7a4_79 rfl (Nat.le_of_ble_eq_true rfl) (Nat.le_of_ble_eq_true rfl) ⟨z2200, rfl, rfl, (Nat.le_of_ble_eq_true rfl), (Nat.le_of_ble_eq_true rfl)⟩
  · have r2201 : z2106.toInt ≤ 0 := gj_nltL hc2107 (show Int32.toInt 0 = 0 by decide)
    have bz2106' : gB z2106 (-2147483648) 0 := ⟨by omega, by omega⟩
    refine G_iload_n 0 dr_cJ6_numberOfTrailingZeros_0f7a4_12 rfl ?_
    refine G_bipush 32 dr_cJ6_numberOfTrailingZeros_0f7a4_13 (by decide +kernel) ?_
    refine G_iand dr_cJ6_numberOfTrailingZeros_0f7a4_15 (G_nam fun z2202 hz2202 => ?_)
    have bz2202 : gB z2202 0 32 := gB_and hz2202 (gBl (show Int32.toInt 32 = 32 by decide)) (by decide)
    exact G_iretA dr_cJ6_numberOfTrailingZeros_0f7a4_16 rfl (Nat.le_of_ble_eq_true rfl) (Nat.le_of_ble_eq_true rfl) ⟨z2202, rfl, rfl, (Nat.le_of_ble_eq_true rfl), (Nat.le_of_ble_eq_true rfl)⟩
abbrev ky_2096_Long_numberOfTrailingZeros : gKey := (cJ13_numberOfTrailingZeros_95d88, 3, "java/lang/Long", (some FieldType.int), [], "numberOfTrailingZeros", fun _ _ => True)
def pp_2096_Long_numberOfTrailingZeros (D : va_G) (I : FieldType → ClassId) (P2093 : List Nat) (F2094 : Nat → va_E) (pl2095 : Int64) : Option Value → va_W → Nat → Nat → Prop := fun r w dc ds => (∃ (o2209 : Int32) (z2097 : Int32), r = some (.int o2209) ∧ w = va_pl P2093 F2094 ∧ dc ≤ 0 ∧ ds ≤ 0 ∧ z2097.toInt ≠ 0 ∧ gB o2209 (-2147483648) 2147483647 ∧ gB z2097 (-2147483648) 2147483647) ∨ (∃ (z2219 : Int32) (z2097 : Int32), r = some (.int z2219) ∧ w = va_pl P2093 F2094 ∧ dc ≤ 0 ∧ ds ≤ 0 ∧ z2097.toInt = 0 ∧ gB z2219 (-2147483648) 2147483647 ∧ gB z2097 0 0)
set_option maxRecDepth 100000 in
set_option maxHeartbeats 4000000 in
theorem cp_2096_Long_numberOfTrailingZeros (l : Launch) (hl0 : l.stackTraces = false) (D : va_G) (I : FieldType → ClassId) (P2093 : List Nat) (F2094 : Nat → va_E) (pl2095 : Int64)  : CtA (gV D I) l yJ13_numberOfTrailingZeros_95d88 cJ13_numberOfTrailingZeros_95d88 3 (some FieldType.int) 1 21 0 0 [.long pl2095] (va_pl P2093 F2094) (pp_2096_Long_numberOfTrailingZeros D I P2093 F2094 pl2095) gNA := by
  refine CtA_ofF hl0 (by decide +kernel) (Nat.le_of_ble_eq_true rfl) ?_
  refine G_lload_n 0 dr_cJ13_numberOfTrailingZeros_95d88_0 rfl ?_
  refine G_l2i dr_cJ13_numberOfTrailingZeros_95d88_1 (G_nam fun z2097 hz2097 => ?_)
  have bz2097 : gB z2097 (-2147483648) 2147483647 := gB_any z2097
  refine G_istore_n (L' := [(2, .int z2097), (0, .long pl2095)]) dr_cJ13_numberOfTrailingZeros_95d88_2 (Nat.le_of_ble_eq_true rfl) rfl ?_
  refine G_iload_n 0 dr_cJ13_numberOfTrailingZeros_95d88_3 rfl ?_
  refine G_if_ne 21 dr_cJ13_numberOfTrailingZeros_95d88_4 (by decide +kernel) (fun hc2098 => ?_) (fun hc2098 => ?_)
  · have r2099 : z2097.toInt ≠ 0 := gj_neq hc2098 (show Int32.toInt 0 = 0 by decide)
    refine G_iload_n 0 dr_cJ13_numberOfTrailingZeros_95d88_21 rfl ?_
    refine Gw_callS (As := [.int z2097]) (gV_ok D I) (cp_2103_Integer_numberOfTrailingZeros l hl0 D I P2093 F2094 z2097 ) dr_cJ13_numberOfTrailingZeros_95d88_22 ⟨wr_11_4, wr_1_35, wr_11_6, by decide, rfl, (Nat.le_of_ble_eq_true rfl), (Nat.le_of_ble_eq_true rfl)⟩ wr_11_5 (show 0 + 0 ≤ 0 by first | omega | decide) (show 0 + 0 ≤ 0 by first | omega | decide) (Nat.le_of_ble_eq_true rfl) (fun r2207 w2208 dc2204 ds2205 hp2206 => ?_) (fun _ _ _ _ _ z => z.elim)
    obtain ⟨o2209, rfl, rfl, hdc, hds⟩ := hp2206
    change G _ _ _ _ _ _ _ (.int o2209 :: _) _ _ _
    refine G_widen (cs' := 0) (sl' := 0) (by omega) (by omega) ?_
    exact G_iretA dr_cJ13_numberOfTrailingZeros_95d88_25 rfl (Nat.le_of_ble_eq_true rfl) (Nat.le_of_ble_eq_true rfl) (Or.inl ⟨o2209, z2097, rfl, rfl, (Nat.le_of_ble_eq_true rfl), (Nat.le_of_ble_eq_true rfl), r2099, (gB_any o2209), bz2097⟩)
  · have r2210 : z2097.toInt = 0 := gj_eq hc2098 (show Int32.toInt 0 = 0 by decide)
    have bz2097' : gB z2097 0 0 := ⟨by omega, by omega⟩
    refine G_bipush 32 dr_cJ13_numberOfTrailingZeros_95d88_7 (by decide +kernel) ?_
    refine G_lload_n 1 dr_cJ13_numberOfTrailingZeros_95d88_9 rfl ?_
    refine G_bipush 32 dr_cJ13_numberOfTrailingZeros_95d88_10 (by decide +kernel) ?_
    refine G_lushr dr_cJ13_numberOfTrailingZeros_95d88_12 (G_namL fun u2211 hu2211 => ?_)
    refine G_l2i dr_cJ13_numberOfTrailingZeros_95d88_13 (G_nam fun z2212 hz2212 => ?_)
    have bz2212 : gB z2212 (-2147483648) 2147483647 := gB_any z2212
    refine Gw_callS (As := [.int z2212]) (gV_ok D I) (cp_2103_Integer_numberOfTrailingZeros l hl0 D I P2093 F2094 z2212 ) dr_cJ13_numberOfTrailingZeros_95d88_14 ⟨wr_11_4, wr_1_35, wr_11_6, by decide, rfl, (Nat.le_of_ble_eq_true rfl), (Nat.le_of_ble_eq_true rfl)⟩ wr_11_5 (show 0 + 0 ≤ 0 by first | omega | decide) (show 0 + 0 ≤ 0 by first | omega | decide) (Nat.le_of_ble_eq_true rfl) (fun r2216 w2217 dc2213 ds2214 hp2215 => ?_) (fun _ _ _ _ _ z => z.elim)
    obtain ⟨o2218, rfl, rfl, hdc, hds⟩ := hp2215
    change G _ _ _ _ _ _ _ (.int o2218 :: _) _ _ _
    refine G_widen (cs' := 0) (sl' := 0) (by omega) (by omega) ?_
    refine G_iadd dr_cJ13_numberOfTrailingZeros_95d88_17 (G_nam fun z2219 hz2219 => ?_)
    have bz2219 : gB z2219 (-2147483648) 2147483647 := gB_any z2219
    refine G_goto 25 dr_cJ13_numberOfTrailingZeros_95d88_18 (by decide +kernel) ?_
    exact G_iretA dr_cJ13_numberOfTrailingZeros_95d88_25 rfl (Nat.le_of_ble_eq_true rfl) (Nat.le_of_ble_eq_true rfl) (Or.inr (⟨z2219, z2097, rfl, rfl, (Nat.le_of_ble_eq_true rfl), (Nat.le_of_ble_eq_true rfl), r2210, bz2219, bz2097'⟩))
abbrev ky_2223_Reader_isDigit : gKey := (cX14_isDigit, 1, "SpillForgeModel$Reader", (some FieldType.boolean), [], "isDigit", fun _ _ => True)
def pp_2223_Reader_isDigit (D : va_G) (I : FieldType → ClassId) (P2220 : List Nat) (F2221 : Nat → va_E) (p2222 : Int32) : Option Value → va_W → Nat → Nat → Prop := fun r w dc ds => (r = some (.int 0) ∧ w = va_pl P2220 F2221 ∧ dc ≤ 0 ∧ ds ≤ 0 ∧ p2222.toInt < 48) ∨ (r = some (.int 0) ∧ w = va_pl P2220 F2221 ∧ dc ≤ 0 ∧ ds ≤ 0 ∧ 48 ≤ p2222.toInt ∧ 57 < p2222.toInt) ∨ (r = some (.int 1) ∧ w = va_pl P2220 F2221 ∧ dc ≤ 0 ∧ ds ≤ 0 ∧ 48 ≤ p2222.toInt ∧ p2222.toInt ≤ 57)
set_option maxRecDepth 100000 in
set_option maxHeartbeats 4000000 in
theorem cp_2223_Reader_isDigit (l : Launch) (hl0 : l.stackTraces = false) (D : va_G) (I : FieldType → ClassId) (P2220 : List Nat) (F2221 : Nat → va_E) (p2222 : Int32)  : CtA (gV D I) l yX14_isDigit cX14_isDigit 1 (some FieldType.boolean) 0 0 0 0 [.int p2222] (va_pl P2220 F2221) (pp_2223_Reader_isDigit D I P2220 F2221 p2222) gNA := by
  refine CtA_of hl0 (by decide) (Nat.le_of_ble_eq_true rfl) ?_
  have bp2222 := gB_any p2222
  refine G_iload_n 0 dr_cX14_isDigit_0 rfl ?_
  refine G_bipush 48 dr_cX14_isDigit_1 (by decide +kernel) ?_
  refine G_icmp_lt 16 dr_cX14_isDigit_3 (by decide +kernel) (fun hc2224 => ?_) (fun hc2224 => ?_)
  · have r2225 : p2222.toInt < 48 := gj_lt hc2224 (show Int32.toInt 48 = 48 by decide)
    have bp2222' : gB p2222 (-2147483648) 47 := ⟨by omega, by omega⟩
    refine G_iconst 0 dr_cX14_isDigit_16 (by decide +kernel) ?_
    exact G_zretA FieldType.boolean dr_cX14_isDigit_17 rfl rfl (Nat.le_of_ble_eq_true rfl) (Nat.le_of_ble_eq_true rfl) (Or.inl ⟨rfl, rfl, (Nat.le_of_ble_eq_true rfl), (Nat.le_of_ble_eq_true rfl), r2225⟩)
  · have r2226 : 48 ≤ p2222.toInt := gj_nlt hc2224 (show Int32.toInt 48 = 48 by decide)
    have bp2222' : gB p2222 48 2147483647 := ⟨by omega, by omega⟩
    refine G_iload_n 0 dr_cX14_isDigit_6 rfl ?_
    refine G_bipush 57 dr_cX14_isDigit_7 (by decide +kernel) ?_
    refine G_icmp_gt 16 dr_cX14_isDigit_9 (by decide +kernel) (fun hc2227 => ?_) (fun hc2227 => ?_)
    · have r2228 : 57 < p2222.toInt := gj_ltL hc2227 (show Int32.toInt 57 = 57 by decide)
      have bp2222'' : gB p2222 58 2147483647 := ⟨by omega, by omega⟩
      refine G_iconst 0 dr_cX14_isDigit_16 (by decide +kernel) ?_
      exact G_zretA FieldType.boolean dr_cX14_isDigit_17 rfl rfl (Nat.le_of_ble_eq_true rfl) (Nat.le_of_ble_eq_true rfl) (Or.inr (Or.inl ⟨rfl, rfl, (Nat.le_of_ble_eq_true rfl), (Nat.le_of_ble_eq_true rfl), r2226, r2228⟩))
    · have r2229 : p2222.toInt ≤ 57 := gj_nltL hc2227 (show Int32.toInt 57 = 57 by decide)
      have bp2222'' : gB p2222 48 57 := ⟨by omega, by omega⟩
      refine G_iconst 1 dr_cX14_isDigit_12 (by decide +kernel) ?_
      refine G_goto 17 dr_cX14_isDigit_13 (by decide +kernel) ?_
      exact G_zretA FieldType.boolean dr_cX14_isDigit_17 rfl rfl (Nat.le_of_ble_eq_true rfl) (Nat.le_of_ble_eq_true rfl) (Or.inr (Or.inr (⟨rfl, rfl, (Nat.le_of_ble_eq_true rfl), (Nat.le_of_ble_eq_true rfl), r2226, r2229⟩)))
abbrev ky_2233_Reader_isLetter : gKey := (cX14_isLetter, 1, "SpillForgeModel$Reader", (some FieldType.boolean), [], "isLetter", fun _ _ => True)
def pp_2233_Reader_isLetter (D : va_G) (I : FieldType → ClassId) (P2230 : List Nat) (F2231 : Nat → va_E) (p2232 : Int32) : Option Value → va_W → Nat → Nat → Prop := fun r w dc ds => (r = some (.int 0) ∧ w = va_pl P2230 F2231 ∧ dc ≤ 0 ∧ ds ≤ 0 ∧ p2232.toInt < 97) ∨ (r = some (.int 0) ∧ w = va_pl P2230 F2231 ∧ dc ≤ 0 ∧ ds ≤ 0 ∧ 97 ≤ p2232.toInt ∧ 122 < p2232.toInt) ∨ (r = some (.int 1) ∧ w = va_pl P2230 F2231 ∧ dc ≤ 0 ∧ ds ≤ 0 ∧ 97 ≤ p2232.toInt ∧ p2232.toInt ≤ 122)
set_option maxRecDepth 100000 in
set_option maxHeartbeats 4000000 in
theorem cp_2233_Reader_isLetter (l : Launch) (hl0 : l.stackTraces = false) (D : va_G) (I : FieldType → ClassId) (P2230 : List Nat) (F2231 : Nat → va_E) (p2232 : Int32)  : CtA (gV D I) l yX14_isLetter cX14_isLetter 1 (some FieldType.boolean) 0 0 0 0 [.int p2232] (va_pl P2230 F2231) (pp_2233_Reader_isLetter D I P2230 F2231 p2232) gNA := by
  refine CtA_of hl0 (by decide) (Nat.le_of_ble_eq_true rfl) ?_
  have bp2232 := gB_any p2232
  refine G_iload_n 0 dr_cX14_isLetter_0 rfl ?_
  refine G_bipush 97 dr_cX14_isLetter_1 (by decide +kernel) ?_
  refine G_icmp_lt 16 dr_cX14_isLetter_3 (by decide +kernel) (fun hc2234 => ?_) (fun hc2234 => ?_)
  · have r2235 : p2232.toInt < 97 := gj_lt hc2234 (show Int32.toInt 97 = 97 by decide)
    have bp2232' : gB p2232 (-2147483648) 96 := ⟨by omega, by omega⟩
    refine G_iconst 0 dr_cX14_isLetter_16 (by decide +kernel) ?_
    exact G_zretA FieldType.boolean dr_cX14_isLetter_17 rfl rfl (Nat.le_of_ble_eq_true rfl) (Nat.le_of_ble_eq_true rfl) (Or.inl ⟨rfl, rfl, (Nat.le_of_ble_eq_true rfl), (Nat.le_of_ble_eq_true rfl), r2235⟩)
  · have r2236 : 97 ≤ p2232.toInt := gj_nlt hc2234 (show Int32.toInt 97 = 97 by decide)
    have bp2232' : gB p2232 97 2147483647 := ⟨by omega, by omega⟩
    refine G_iload_n 0 dr_cX14_isLetter_6 rfl ?_
    refine G_bipush 122 dr_cX14_isLetter_7 (by decide +kernel) ?_
    refine G_icmp_gt 16 dr_cX14_isLetter_9 (by decide +kernel) (fun hc2237 => ?_) (fun hc2237 => ?_)
    · have r2238 : 122 < p2232.toInt := gj_ltL hc2237 (show Int32.toInt 122 = 122 by decide)
      have bp2232'' : gB p2232 123 2147483647 := ⟨by omega, by omega⟩
      refine G_iconst 0 dr_cX14_isLetter_16 (by decide +kernel) ?_
      exact G_zretA FieldType.boolean dr_cX14_isLetter_17 rfl rfl (Nat.le_of_ble_eq_true rfl) (Nat.le_of_ble_eq_true rfl) (Or.inr (Or.inl ⟨rfl, rfl, (Nat.le_of_ble_eq_true rfl), (Nat.le_of_ble_eq_true rfl), r2236, r2238⟩))
    · have r2239 : p2232.toInt ≤ 122 := gj_nltL hc2237 (show Int32.toInt 122 = 122 by decide)
      have bp2232'' : gB p2232 97 122 := ⟨by omega, by omega⟩
      refine G_iconst 1 dr_cX14_isLetter_12 (by decide +kernel) ?_
      refine G_goto 17 dr_cX14_isLetter_13 (by decide +kernel) ?_
      exact G_zretA FieldType.boolean dr_cX14_isLetter_17 rfl rfl (Nat.le_of_ble_eq_true rfl) (Nat.le_of_ble_eq_true rfl) (Or.inr (Or.inr (⟨rfl, rfl, (Nat.le_of_ble_eq_true rfl), (Nat.le_of_ble_eq_true rfl), r2236, r2239⟩)))
