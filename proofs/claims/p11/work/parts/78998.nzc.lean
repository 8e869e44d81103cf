def nzp_int (P : List Nat) (F : Nat → va_E) (p : Int32) : Option Value → va_W → Nat → Nat → Prop := fun r w dc ds => ∃ o : Int32, r = some (.int o) ∧ w = va_pl P F ∧ dc ≤ 0 ∧ ds ≤ 0 ∧ o = nz_f ((p ^^^ (-1)) &&& (p - 1))
set_option maxRecDepth 100000 in
set_option maxHeartbeats 4000000 in
theorem nzc_Integer_numberOfTrailingZeros (l : Launch) (hl0 : l.stackTraces = false) (D : va_G) (I : FieldType → ClassId) (P2107 : List Nat) (F2108 : Nat → va_E) (p2109 : Int32)  : CtA (gV D I) l yJ6_numberOfTrailingZeros_0f7a4 cJ6_numberOfTrailingZeros_0f7a4 2 (some FieldType.int) 0 0 0 0 [.int p2109] (va_pl P2107 F2108) (nzp_int P2107 F2108 p2109) gNA := by
  refine CtA_ofF hl0 (by decide +kernel) (Nat.le_of_ble_eq_true rfl) ?_
  have bp2109 := gB_any p2109
  refine G_iload_n 0 dr_cJ6_numberOfTrailingZeros_0f7a4_0 rfl ?_
  refine G_iconst (-1) dr_cJ6_numberOfTrailingZeros_0f7a4_1 (by decide +kernel) ?_
  refine G_ixor dr_cJ6_numberOfTrailingZeros_0f7a4_2 (G_nam fun z2111 hz2111 => ?_)
  have bz2111 : gB z2111 (-2147483648) 2147483647 := gB_any z2111
  refine G_iload_n 0 dr_cJ6_numberOfTrailingZeros_0f7a4_3 rfl ?_
  refine G_iconst 1 dr_cJ6_numberOfTrailingZeros_0f7a4_4 (by decide +kernel) ?_
  refine G_isub dr_cJ6_numberOfTrailingZeros_0f7a4_5 (G_nam fun z2112 hz2112 => ?_)
  have bz2112 : gB z2112 (-2147483648) 2147483647 := gB_any z2112
  refine G_iand dr_cJ6_numberOfTrailingZeros_0f7a4_6 (G_nam fun z2113 hz2113 => ?_)
  have bz2113 : gB z2113 (-2147483648) 2147483647 := gB_any z2113
  refine G_istore_n (L' := [(0, .int z2113)]) dr_cJ6_numberOfTrailingZeros_0f7a4_7 (Nat.le_of_ble_eq_true rfl) rfl ?_
  refine G_iload_n 0 dr_cJ6_numberOfTrailingZeros_0f7a4_8 rfl ?_
  refine G_if_gt 17 dr_cJ6_numberOfTrailingZeros_0f7a4_9 (by decide +kernel) (fun hc2114 => ?_) (fun hc2114 => ?_)
  · have r2115 : 0 < z2113.toInt := gj_ltL hc2114 (show Int32.toInt 0 = 0 by decide)
    have bz2113' : gB z2113 1 2147483647 := ⟨by omega, by omega⟩
    refine G_iconst 1 dr_cJ6_numberOfTrailingZeros_0f7a4_17 (by decide +kernel) ?_
    refine G_istore_n (L' := [(1, .int 1), (0, .int z2113)]) dr_cJ6_numberOfTrailingZeros_0f7a4_18 (Nat.le_of_ble_eq_true rfl) rfl ?_
    refine G_iload_n 1 dr_cJ6_numberOfTrailingZeros_0f7a4_19 rfl ?_
    refine G_ldcw 65536 dr_cJ6_numberOfTrailingZeros_0f7a4_20 wr_11_7 ?_
    refine G_icmp_le 34 dr_cJ6_numberOfTrailingZeros_0f7a4_23 (by decide +kernel) (fun hc2116 => ?_) (fun hc2116 => ?_)
    · have r2117 : z2113.toInt ≤ 65536 := gj_le hc2116 (show Int32.toInt 65536 = 65536 by decide)
      have bz2113'' : gB z2113 1 65536 := ⟨by omega, by omega⟩
      refine G_iload_n 1 dr_cJ6_numberOfTrailingZeros_0f7a4_34 rfl ?_
      refine G_sipush 256 dr_cJ6_numberOfTrailingZeros_0f7a4_35 (by decide +kernel) ?_
      refine G_icmp_le 49 dr_cJ6_numberOfTrailingZeros_0f7a4_38 (by decide +kernel) (fun hc2118 => ?_) (fun hc2118 => ?_)
      · have r2119 : z2113.toInt ≤ 256 := gj_le hc2118 (show Int32.toInt 256 = 256 by decide)
        have bz2113''' : gB z2113 1 256 := ⟨by omega, by omega⟩
        refine G_iload_n 1 dr_cJ6_numberOfTrailingZeros_0f7a4_49 rfl ?_
        refine G_bipush 16 dr_cJ6_numberOfTrailingZeros_0f7a4_50 (by decide +kernel) ?_
        refine G_icmp_le 62 dr_cJ6_numberOfTrailingZeros_0f7a4_52 (by decide +kernel) (fun hc2120 => ?_) (fun hc2120 => ?_)
        · have r2121 : z2113.toInt ≤ 16 := gj_le hc2120 (show Int32.toInt 16 = 16 by decide)
          have bz2113'''' : gB z2113 1 16 := ⟨by omega, by omega⟩
          refine G_iload_n 1 dr_cJ6_numberOfTrailingZeros_0f7a4_62 rfl ?_
          refine G_iconst 4 dr_cJ6_numberOfTrailingZeros_0f7a4_63 (by decide +kernel) ?_
          refine G_icmp_le 74 dr_cJ6_numberOfTrailingZeros_0f7a4_64 (by decide +kernel) (fun hc2122 => ?_) (fun hc2122 => ?_)
          · have r2123 : z2113.toInt ≤ 4 := gj_le hc2122 (show Int32.toInt 4 = 4 by decide)
            have bz2113''''' : gB z2113 1 4 := ⟨by omega, by omega⟩
            refine G_iload_n 0 dr_cJ6_numberOfTrailingZeros_0f7a4_74 rfl ?_
            refine G_iload_n 1 dr_cJ6_numberOfTrailingZeros_0f7a4_75 rfl ?_
            refine G_iconst 1 dr_cJ6_numberOfTrailingZeros_0f7a4_76 (by decide +kernel) ?_
            refine G_iushr dr_cJ6_numberOfTrailingZeros_0f7a4_77 (G_nam fun z2124 hz2124 => ?_)
            have bz2124 : gB z2124 (-2147483648) 2147483647 := gB_any z2124
            refine G_iadd dr_cJ6_numberOfTrailingZeros_0f7a4_78 (G_nam fun z2125 hz2125 => ?_)
            have bz2125 : gB z2125 (-2147483648) 2147483647 := gB_any z2125
            have hm : (p2109 ^^^ (-1)) &&& (p2109 - 1) = z2113 := by rw [hz2113, hz2111, hz2112]
            have e0 : nz_s (z2113, 1) 65536 16 = (z2113, 1) := if_neg (Int32.not_lt.mpr hc2116)
            have e1 : nz_s (z2113, 1) 256 8 = (z2113, 1) := if_neg (Int32.not_lt.mpr hc2118)
            have e2 : nz_s (z2113, 1) 16 4 = (z2113, 1) := if_neg (Int32.not_lt.mpr hc2120)
            have e3 : nz_s (z2113, 1) 4 2 = (z2113, 1) := if_neg (Int32.not_lt.mpr hc2122)
            have eq : nz_q z2113 = (z2113, 1) := by unfold nz_q; rw [e0, e1, e2, e3]
            have hE : z2125 = nz_f ((p2109 ^^^ (-1)) &&& (p2109 - 1)) := by rw [hm, nz_f, if_pos hc2114, eq, hz2125, hz2124]; rfl
            exact G_iretA dr_cJ6_numberOfTrailingZeros_0f7a4_79 rfl (Nat.le_of_ble_eq_true rfl) (Nat.le_of_ble_eq_true rfl) ⟨z2125, rfl, rfl, (Nat.le_of_ble_eq_true rfl), (Nat.le_of_ble_eq_true rfl), hE⟩
          · have r2126 : 4 < z2113.toInt := gj_nle hc2122 (show Int32.toInt 4 = 4 by decide)
            have bz2113''''' : gB z2113 5 16 := ⟨by omega, by omega⟩
            refine G_iinc (L' := [(1, .int 3), (0, .int z2113)]) (3) 0 dr_cJ6_numberOfTrailingZeros_0f7a4_67 rfl (by decide) (Nat.le_of_ble_eq_true rfl) rfl ?_
            refine G_iload_n 1 dr_cJ6_numberOfTrailingZeros_0f7a4_70 rfl ?_
            refine G_iconst 2 dr_cJ6_numberOfTrailingZeros_0f7a4_71 (by decide +kernel) ?_
            refine G_iushr dr_cJ6_numberOfTrailingZeros_0f7a4_72 (G_nam fun z2127 hz2127 => ?_)
            have bz2127 : gB z2127 (-2147483648) 2147483647 := gB_any z2127
            refine G_istore_n (L' := [(0, .int z2127), (1, .int 3)]) dr_cJ6_numberOfTrailingZeros_0f7a4_73 (Nat.le_of_ble_eq_true rfl) rfl ?_
            refine G_iload_n 1 dr_cJ6_numberOfTrailingZeros_0f7a4_74 rfl ?_
            refine G_iload_n 0 dr_cJ6_numberOfTrailingZeros_0f7a4_75 rfl ?_
            refine G_iconst 1 dr_cJ6_numberOfTrailingZeros_0f7a4_76 (by decide +kernel) ?_
            refine G_iushr dr_cJ6_numberOfTrailingZeros_0f7a4_77 (G_nam fun z2128 hz2128 => ?_)
            have bz2128 : gB z2128 (-2147483648) 2147483647 := gB_any z2128
            refine G_iadd dr_cJ6_numberOfTrailingZeros_0f7a4_78 (G_nam fun z2129 hz2129 => ?_)
            have bz2129 : gB z2129 (-2147483648) 2147483647 := gB_any z2129
            have hm : (p2109 ^^^ (-1)) &&& (p2109 - 1) = z2113 := by rw [hz2113, hz2111, hz2112]
            have e0 : nz_s (z2113, 1) 65536 16 = (z2113, 1) := if_neg (Int32.not_lt.mpr hc2116)
            have e1 : nz_s (z2113, 1) 256 8 = (z2113, 1) := if_neg (Int32.not_lt.mpr hc2118)
            have e2 : nz_s (z2113, 1) 16 4 = (z2113, 1) := if_neg (Int32.not_lt.mpr hc2120)
            have e3 : nz_s (z2113, 1) 4 2 = (z2127, 3) := (if_pos (Int32.not_le.mp hc2122)).trans (by rw [hz2127]; exact Prod.ext rfl (show (1 : Int32) + 2 = 3 by decide))
            have eq : nz_q z2113 = (z2127, 3) := by unfold nz_q; rw [e0, e1, e2, e3]
            have hE : z2129 = nz_f ((p2109 ^^^ (-1)) &&& (p2109 - 1)) := by rw [hm, nz_f, if_pos hc2114, eq, hz2129, hz2128]; rfl
            exact G_iretA dr_cJ6_numberOfTrailingZeros_0f7a4_79 rfl (Nat.le_of_ble_eq_true rfl) (Nat.le_of_ble_eq_true rfl) ⟨z2129, rfl, rfl, (Nat.le_of_ble_eq_true rfl), (Nat.le_of_ble_eq_true rfl), hE⟩
        · have r2130 : 16 < z2113.toInt := gj_nle hc2120 (show Int32.toInt 16 = 16 by decide)
          have bz2113'''' : gB z2113 17 256 := ⟨by omega, by omega⟩
          refine G_iinc (L' := [(1, .int 5), (0, .int z2113)]) (5) 0 dr_cJ6_numberOfTrailingZeros_0f7a4_55 rfl (by decide) (Nat.le_of_ble_eq_true rfl) rfl ?_
          refine G_iload_n 1 dr_cJ6_numberOfTrailingZeros_0f7a4_58 rfl ?_
          refine G_iconst 4 dr_cJ6_numberOfTrailingZeros_0f7a4_59 (by decide +kernel) ?_
          refine G_iushr dr_cJ6_numberOfTrailingZeros_0f7a4_60 (G_nam fun z2131 hz2131 => ?_)
          have bz2131 : gB z2131 (-2147483648) 2147483647 := gB_any z2131
          refine G_istore_n (L' := [(0, .int z2131), (1, .int 5)]) dr_cJ6_numberOfTrailingZeros_0f7a4_61 (Nat.le_of_ble_eq_true rfl) rfl ?_
          refine G_iload_n 0 dr_cJ6_numberOfTrailingZeros_0f7a4_62 rfl ?_
          refine G_iconst 4 dr_cJ6_numberOfTrailingZeros_0f7a4_63 (by decide +kernel) ?_
          refine G_icmp_le 74 dr_cJ6_numberOfTrailingZeros_0f7a4_64 (by decide +kernel) (fun hc2132 => ?_) (fun hc2132 => ?_)
          · have r2133 : z2131.toInt ≤ 4 := gj_le hc2132 (show Int32.toInt 4 = 4 by decide)
            have bz2131' : gB z2131 (-2147483648) 4 := ⟨by omega, by omega⟩
            refine G_iload_n 1 dr_cJ6_numberOfTrailingZeros_0f7a4_74 rfl ?_
            refine G_iload_n 0 dr_cJ6_numberOfTrailingZeros_0f7a4_75 rfl ?_
            refine G_iconst 1 dr_cJ6_numberOfTrailingZeros_0f7a4_76 (by decide +kernel) ?_
            refine G_iushr dr_cJ6_numberOfTrailingZeros_0f7a4_77 (G_nam fun z2134 hz2134 => ?_)
            have bz2134 : gB z2134 (-2147483648) 2147483647 := gB_any z2134
            refine G_iadd dr_cJ6_numberOfTrailingZeros_0f7a4_78 (G_nam fun z2135 hz2135 => ?_)
            have bz2135 : gB z2135 (-2147483648) 2147483647 := gB_any z2135
            have hm : (p2109 ^^^ (-1)) &&& (p2109 - 1) = z2113 := by rw [hz2113, hz2111, hz2112]
            have e0 : nz_s (z2113, 1) 65536 16 = (z2113, 1) := if_neg (Int32.not_lt.mpr hc2116)
            have e1 : nz_s (z2113, 1) 256 8 = (z2113, 1) := if_neg (Int32.not_lt.mpr hc2118)
            have e2 : nz_s (z2113, 1) 16 4 = (z2131, 5) := (if_pos (Int32.not_le.mp hc2120)).trans (by rw [hz2131]; exact Prod.ext rfl (show (1 : Int32) + 4 = 5 by decide))
            have e3 : nz_s (z2131, 5) 4 2 = (z2131, 5) := if_neg (Int32.not_lt.mpr hc2132)
            have eq : nz_q z2113 = (z2131, 5) := by unfold nz_q; rw [e0, e1, e2, e3]
            have hE : z2135 = nz_f ((p2109 ^^^ (-1)) &&& (p2109 - 1)) := by rw [hm, nz_f, if_pos hc2114, eq, hz2135, hz2134]; rfl
            exact G_iretA dr_cJ6_numberOfTrailingZeros_0f7a4_79 rfl (Nat.le_of_ble_eq_true rfl) (Nat.le_of_ble_eq_true rfl) ⟨z2135, rfl, rfl, (Nat.le_of_ble_eq_true rfl), (Nat.le_of_ble_eq_true rfl), hE⟩
          · have r2136 : 4 < z2131.toInt := gj_nle hc2132 (show Int32.toInt 4 = 4 by decide)
            have bz2131' : gB z2131 5 2147483647 := ⟨by omega, by omega⟩
            refine G_iinc (L' := [(1, .int 7), (0, .int z2131)]) (7) 1 dr_cJ6_numberOfTrailingZeros_0f7a4_67 rfl (by decide) (Nat.le_of_ble_eq_true rfl) rfl ?_
            refine G_iload_n 1 dr_cJ6_numberOfTrailingZeros_0f7a4_70 rfl ?_
            refine G_iconst 2 dr_cJ6_numberOfTrailingZeros_0f7a4_71 (by decide +kernel) ?_
            refine G_iushr dr_cJ6_numberOfTrailingZeros_0f7a4_72 (G_nam fun z2137 hz2137 => ?_)
            have bz2137 : gB z2137 (-2147483648) 2147483647 := gB_any z2137
            refine G_istore_n (L' := [(0, .int z2137), (1, .int 7)]) dr_cJ6_numberOfTrailingZeros_0f7a4_73 (Nat.le_of_ble_eq_true rfl) rfl ?_
            refine G_iload_n 1 dr_cJ6_numberOfTrailingZeros_0f7a4_74 rfl ?_
            refine G_iload_n 0 dr_cJ6_numberOfTrailingZeros_0f7a4_75 rfl ?_
            refine G_iconst 1 dr_cJ6_numberOfTrailingZeros_0f7a4_76 (by decide +kernel) ?_
            refine G_iushr dr_cJ6_numberOfTrailingZeros_0f7a4_77 (G_nam fun z2138 hz2138 => ?_)
            have bz2138 : gB z2138 (-2147483648) 2147483647 := gB_any z2138
            refine G_iadd dr_cJ6_numberOfTrailingZeros_0f7a4_78 (G_nam fun z2139 hz2139 => ?_)
            have bz2139 : gB z2139 (-2147483648) 2147483647 := gB_any z2139
            have hm : (p2109 ^^^ (-1)) &&& (p2109 - 1) = z2113 := by rw [hz2113, hz2111, hz2112]
            have e0 : nz_s (z2113, 1) 65536 16 = (z2113, 1) := if_neg (Int32.not_lt.mpr hc2116)
            have e1 : nz_s (z2113, 1) 256 8 = (z2113, 1) := if_neg (Int32.not_lt.mpr hc2118)
            have e2 : nz_s (z2113, 1) 16 4 = (z2131, 5) := (if_pos (Int32.not_le.mp hc2120)).trans (by rw [hz2131]; exact Prod.ext rfl (show (1 : Int32) + 4 = 5 by decide))
            have e3 : nz_s (z2131, 5) 4 2 = (z2137, 7) := (if_pos (Int32.not_le.mp hc2132)).trans (by rw [hz2137]; exact Prod.ext rfl (show (5 : Int32) + 2 = 7 by decide))
            have eq : nz_q z2113 = (z2137, 7) := by unfold nz_q; rw [e0, e1, e2, e3]
            have hE : z2139 = nz_f ((p2109 ^^^ (-1)) &&& (p2109 - 1)) := by rw [hm, nz_f, if_pos hc2114, eq, hz2139, hz2138]; rfl
            exact G_iretA dr_cJ6_numberOfTrailingZeros_0f7a4_79 rfl (Nat.le_of_ble_eq_true rfl) (Nat.le_of_ble_eq_true rfl) ⟨z2139, rfl, rfl, (Nat.le_of_ble_eq_true rfl), (Nat.le_of_ble_eq_true rfl), hE⟩
      · have r2140 : 256 < z2113.toInt := gj_nle hc2118 (show Int32.toInt 256 = 256 by decide)
        have bz2113''' : gB z2113 257 65536 := ⟨by omega, by omega⟩
        refine G_iinc (L' := [(1, .int 9), (0, .int z2113)]) (9) 0 dr_cJ6_numberOfTrailingZeros_0f7a4_41 rfl (by decide) (Nat.le_of_ble_eq_true rfl) rfl ?_
        refine G_iload_n 1 dr_cJ6_numberOfTrailingZeros_0f7a4_44 rfl ?_
        refine G_bipush 8 dr_cJ6_numberOfTrailingZeros_0f7a4_45 (by decide +kernel) ?_
        refine G_iushr dr_cJ6_numberOfTrailingZeros_0f7a4_47 (G_nam fun z2141 hz2141 => ?_)
        have bz2141 : gB z2141 (-2147483648) 2147483647 := gB_any z2141
        refine G_istore_n (L' := [(0, .int z2141), (1, .int 9)]) dr_cJ6_numberOfTrailingZeros_0f7a4_48 (Nat.le_of_ble_eq_true rfl) rfl ?_
        refine G_iload_n 0 dr_cJ6_numberOfTrailingZeros_0f7a4_49 rfl ?_
        refine G_bipush 16 dr_cJ6_numberOfTrailingZeros_0f7a4_50 (by decide +kernel) ?_
        refine G_icmp_le 62 dr_cJ6_numberOfTrailingZeros_0f7a4_52 (by decide +kernel) (fun hc2142 => ?_) (fun hc2142 => ?_)
        · have r2143 : z2141.toInt ≤ 16 := gj_le hc2142 (show Int32.toInt 16 = 16 by decide)
          have bz2141' : gB z2141 (-2147483648) 16 := ⟨by omega, by omega⟩
          refine G_iload_n 0 dr_cJ6_numberOfTrailingZeros_0f7a4_62 rfl ?_
          refine G_iconst 4 dr_cJ6_numberOfTrailingZeros_0f7a4_63 (by decide +kernel) ?_
          refine G_icmp_le 74 dr_cJ6_numberOfTrailingZeros_0f7a4_64 (by decide +kernel) (fun hc2144 => ?_) (fun hc2144 => ?_)
          · have r2145 : z2141.toInt ≤ 4 := gj_le hc2144 (show Int32.toInt 4 = 4 by decide)
            have bz2141'' : gB z2141 (-2147483648) 4 := ⟨by omega, by omega⟩
            refine G_iload_n 1 dr_cJ6_numberOfTrailingZeros_0f7a4_74 rfl ?_
            refine G_iload_n 0 dr_cJ6_numberOfTrailingZeros_0f7a4_75 rfl ?_
            refine G_iconst 1 dr_cJ6_numberOfTrailingZeros_0f7a4_76 (by decide +kernel) ?_
            refine G_iushr dr_cJ6_numberOfTrailingZeros_0f7a4_77 (G_nam fun z2146 hz2146 => ?_)
            have bz2146 : gB z2146 (-2147483648) 2147483647 := gB_any z2146
            refine G_iadd dr_cJ6_numberOfTrailingZeros_0f7a4_78 (G_nam fun z2147 hz2147 => ?_)
            have bz2147 : gB z2147 (-2147483648) 2147483647 := gB_any z2147
            have hm : (p2109 ^^^ (-1)) &&& (p2109 - 1) = z2113 := by rw [hz2113, hz2111, hz2112]
            have e0 : nz_s (z2113, 1) 65536 16 = (z2113, 1) := if_neg (Int32.not_lt.mpr hc2116)
            have e1 : nz_s (z2113, 1) 256 8 = (z2141, 9) := (if_pos (Int32.not_le.mp hc2118)).trans (by rw [hz2141]; exact Prod.ext rfl (show (1 : Int32) + 8 = 9 by decide))
            have e2 : nz_s (z2141, 9) 16 4 = (z2141, 9) := if_neg (Int32.not_lt.mpr hc2142)
            have e3 : nz_s (z2141, 9) 4 2 = (z2141, 9) := if_neg (Int32.not_lt.mpr hc2144)
            have eq : nz_q z2113 = (z2141, 9) := by unfold nz_q; rw [e0, e1, e2, e3]
            have hE : z2147 = nz_f ((p2109 ^^^ (-1)) &&& (p2109 - 1)) := by rw [hm, nz_f, if_pos hc2114, eq, hz2147, hz2146]; rfl
            exact G_iretA dr_cJ6_numberOfTrailingZeros_0f7a4_79 rfl (Nat.le_of_ble_eq_true rfl) (Nat.le_of_ble_eq_true rfl) ⟨z2147, rfl, rfl, (Nat.le_of_ble_eq_true rfl), (Nat.le_of_ble_eq_true rfl), hE⟩
          · have r2148 : 4 < z2141.toInt := gj_nle hc2144 (show Int32.toInt 4 = 4 by decide)
            have bz2141'' : gB z2141 5 16 := ⟨by omega, by omega⟩
            refine G_iinc (L' := [(1, .int 11), (0, .int z2141)]) (11) 1 dr_cJ6_numberOfTrailingZeros_0f7a4_67 rfl (by decide) (Nat.le_of_ble_eq_true rfl) rfl ?_
            refine G_iload_n 1 dr_cJ6_numberOfTrailingZeros_0f7a4_70 rfl ?_
            refine G_iconst 2 dr_cJ6_numberOfTrailingZeros_0f7a4_71 (by decide +kernel) ?_
            refine G_iushr dr_cJ6_numberOfTrailingZeros_0f7a4_72 (G_nam fun z2149 hz2149 => ?_)
            have bz2149 : gB z2149 (-2147483648) 2147483647 := gB_any z2149
            refine G_istore_n (L' := [(0, .int z2149), (1, .int 11)]) dr_cJ6_numberOfTrailingZeros_0f7a4_73 (Nat.le_of_ble_eq_true rfl) rfl ?_
            refine G_iload_n 1 dr_cJ6_numberOfTrailingZeros_0f7a4_74 rfl ?_
            refine G_iload_n 0 dr_cJ6_numberOfTrailingZeros_0f7a4_75 rfl ?_
            refine G_iconst 1 dr_cJ6_numberOfTrailingZeros_0f7a4_76 (by decide +kernel) ?_
            refine G_iushr dr_cJ6_numberOfTrailingZeros_0f7a4_77 (G_nam fun z2150 hz2150 => ?_)
            have bz2150 : gB z2150 (-2147483648) 2147483647 := gB_any z2150
            refine G_iadd dr_cJ6_numberOfTrailingZeros_0f7a4_78 (G_nam fun z2151 hz2151 => ?_)
            have bz2151 : gB z2151 (-2147483648) 2147483647 := gB_any z2151
            have hm : (p2109 ^^^ (-1)) &&& (p2109 - 1) = z2113 := by rw [hz2113, hz2111, hz2112]
            have e0 : nz_s (z2113, 1) 65536 16 = (z2113, 1) := if_neg (Int32.not_lt.mpr hc2116)
            have e1 : nz_s (z2113, 1) 256 8 = (z2141, 9) := (if_pos (Int32.not_le.mp hc2118)).trans (by rw [hz2141]; exact Prod.ext rfl (show (1 : Int32) + 8 = 9 by decide))
            have e2 : nz_s (z2141, 9) 16 4 = (z2141, 9) := if_neg (Int32.not_lt.mpr hc2142)
            have e3 : nz_s (z2141, 9) 4 2 = (z2149, 11) := (if_pos (Int32.not_le.mp hc2144)).trans (by rw [hz2149]; exact Prod.ext rfl (show (9 : Int32) + 2 = 11 by decide))
            have eq : nz_q z2113 = (z2149, 11) := by unfold nz_q; rw [e0, e1, e2, e3]
            have hE : z2151 = nz_f ((p2109 ^^^ (-1)) &&& (p2109 - 1)) := by rw [hm, nz_f, if_pos hc2114, eq, hz2151, hz2150]; rfl
            exact G_iretA dr_cJ6_numberOfTrailingZeros_0f7a4_79 rfl (Nat.le_of_ble_eq_true rfl) (Nat.le_of_ble_eq_true rfl) ⟨z2151, rfl, rfl, (Nat.le_of_ble_eq_true rfl), (Nat.le_of_ble_eq_true rfl), hE⟩
        · have r2152 : 16 < z2141.toInt := gj_nle hc2142 (show Int32.toInt 16 = 16 by decide)
          have bz2141' : gB z2141 17 2147483647 := ⟨by omega, by omega⟩
          refine G_iinc (L' := [(1, .int 13), (0, .int z2141)]) (13) 1 dr_cJ6_numberOfTrailingZeros_0f7a4_55 rfl (by decide) (Nat.le_of_ble_eq_true rfl) rfl ?_
          refine G_iload_n 1 dr_cJ6_numberOfTrailingZeros_0f7a4_58 rfl ?_
          refine G_iconst 4 dr_cJ6_numberOfTrailingZeros_0f7a4_59 (by decide +kernel) ?_
          refine G_iushr dr_cJ6_numberOfTrailingZeros_0f7a4_60 (G_nam fun z2153 hz2153 => ?_)
          have bz2153 : gB z2153 (-2147483648) 2147483647 := gB_any z2153
          refine G_istore_n (L' := [(0, .int z2153), (1, .int 13)]) dr_cJ6_numberOfTrailingZeros_0f7a4_61 (Nat.le_of_ble_eq_true rfl) rfl ?_
          refine G_iload_n 0 dr_cJ6_numberOfTrailingZeros_0f7a4_62 rfl ?_
          refine G_iconst 4 dr_cJ6_numberOfTrailingZeros_0f7a4_63 (by decide +kernel) ?_
          refine G_icmp_le 74 dr_cJ6_numberOfTrailingZeros_0f7a4_64 (by decide +kernel) (fun hc2154 => ?_) (fun hc2154 => ?_)
          · have r2155 : z2153.toInt ≤ 4 := gj_le hc2154 (show Int32.toInt 4 = 4 by decide)
            have bz2153' : gB z2153 (-2147483648) 4 := ⟨by omega, by omega⟩
            refine G_iload_n 1 dr_cJ6_numberOfTrailingZeros_0f7a4_74 rfl ?_
            refine G_iload_n 0 dr_cJ6_numberOfTrailingZeros_0f7a4_75 rfl ?_
            refine G_iconst 1 dr_cJ6_numberOfTrailingZeros_0f7a4_76 (by decide +kernel) ?_
            refine G_iushr dr_cJ6_numberOfTrailingZeros_0f7a4_77 (G_nam fun z2156 hz2156 => ?_)
            have bz2156 : gB z2156 (-2147483648) 2147483647 := gB_any z2156
            refine G_iadd dr_cJ6_numberOfTrailingZeros_0f7a4_78 (G_nam fun z2157 hz2157 => ?_)
            have bz2157 : gB z2157 (-2147483648) 2147483647 := gB_any z2157
            have hm : (p2109 ^^^ (-1)) &&& (p2109 - 1) = z2113 := by rw [hz2113, hz2111, hz2112]
            have e0 : nz_s (z2113, 1) 65536 16 = (z2113, 1) := if_neg (Int32.not_lt.mpr hc2116)
            have e1 : nz_s (z2113, 1) 256 8 = (z2141, 9) := (if_pos (Int32.not_le.mp hc2118)).trans (by rw [hz2141]; exact Prod.ext rfl (show (1 : Int32) + 8 = 9 by decide))
            have e2 : nz_s (z2141, 9) 16 4 = (z2153, 13) := (if_pos (Int32.not_le.mp hc2142)).trans (by rw [hz2153]; exact Prod.ext rfl (show (9 : Int32) + 4 = 13 by decide))
            have e3 : nz_s (z2153, 13) 4 2 = (z2153, 13) := if_neg (Int32.not_lt.mpr hc2154)
            have eq : nz_q z2113 = (z2153, 13) := by unfold nz_q; rw [e0, e1, e2, e3]
            have hE : z2157 = nz_f ((p2109 ^^^ (-1)) &&& (p2109 - 1)) := by rw [hm, nz_f, if_pos hc2114, eq, hz2157, hz2156]; rfl
            exact G_iretA dr_cJ6_numberOfTrailingZeros_0f7a4_79 rfl (Nat.le_of_ble_eq_true rfl) (Nat.le_of_ble_eq_true rfl) ⟨z2157, rfl, rfl, (Nat.le_of_ble_eq_true rfl), (Nat.le_of_ble_eq_true rfl), hE⟩
          · have r2158 : 4 < z2153.toInt := gj_nle hc2154 (show Int32.toInt 4 = 4 by decide)
            have bz2153' : gB z2153 5 2147483647 := ⟨by omega, by omega⟩
            refine G_iinc (L' := [(1, .int 15), (0, .int z2153)]) (15) 1 dr_cJ6_numberOfTrailingZeros_0f7a4_67 rfl (by decide) (Nat.le_of_ble_eq_true rfl) rfl ?_
            refine G_iload_n 1 dr_cJ6_numberOfTrailingZeros_0f7a4_70 rfl ?_
            refine G_iconst 2 dr_cJ6_numberOfTrailingZeros_0f7a4_71 (by decide +kernel) ?_
            refine G_iushr dr_cJ6_numberOfTrailingZeros_0f7a4_72 (G_nam fun z2159 hz2159 => ?_)
            have bz2159 : gB z2159 (-2147483648) 2147483647 := gB_any z2159
            refine G_istore_n (L' := [(0, .int z2159), (1, .int 15)]) dr_cJ6_numberOfTrailingZeros_0f7a4_73 (Nat.le_of_ble_eq_true rfl) rfl ?_
            refine G_iload_n 1 dr_cJ6_numberOfTrailingZeros_0f7a4_74 rfl ?_
            refine G_iload_n 0 dr_cJ6_numberOfTrailingZeros_0f7a4_75 rfl ?_
            refine G_iconst 1 dr_cJ6_numberOfTrailingZeros_0f7a4_76 (by decide +kernel) ?_
            refine G_iushr dr_cJ6_numberOfTrailingZeros_0f7a4_77 (G_nam fun z2160 hz2160 => ?_)
            have bz2160 : gB z2160 (-2147483648) 2147483647 := gB_any z2160
            refine G_iadd dr_cJ6_numberOfTrailingZeros_0f7a4_78 (G_nam fun z2161 hz2161 => ?_)
            have bz2161 : gB z2161 (-2147483648) 2147483647 := gB_any z2161
            have hm : (p2109 ^^^ (-1)) &&& (p2109 - 1) = z2113 := by rw [hz2113, hz2111, hz2112]
            have e0 : nz_s (z2113, 1) 65536 16 = (z2113, 1) := if_neg (Int32.not_lt.mpr hc2116)
            have e1 : nz_s (z2113, 1) 256 8 = (z2141, 9) := (if_pos (Int32.not_le.mp hc2118)).trans (by rw [hz2141]; exact Prod.ext rfl (show (1 : Int32) + 8 = 9 by decide))
            have e2 : nz_s (z2141, 9) 16 4 = (z2153, 13) := (if_pos (Int32.not_le.mp hc2142)).trans (by rw [hz2153]; exact Prod.ext rfl (show (9 : Int32) + 4 = 13 by decide))
            have e3 : nz_s (z2153, 13) 4 2 = (z2159, 15) := (if_pos (Int32.not_le.mp hc2154)).trans (by rw [hz2159]; exact Prod.ext rfl (show (13 : Int32) + 2 = 15 by decide))
            have eq : nz_q z2113 = (z2159, 15) := by unfold nz_q; rw [e0, e1, e2, e3]
            have hE : z2161 = nz_f ((p2109 ^^^ (-1)) &&& (p2109 - 1)) := by rw [hm, nz_f, if_pos hc2114, eq, hz2161, hz2160]; rfl
            exact G_iretA dr_cJ6_numberOfTrailingZeros_0f7a4_79 rfl (Nat.le_of_ble_eq_true rfl) (Nat.le_of_ble_eq_true rfl) ⟨z2161, rfl, rfl, (Nat.le_of_ble_eq_true rfl), (Nat.le_of_ble_eq_true rfl), hE⟩
    · have r2162 : 65536 < z2113.toInt := gj_nle hc2116 (show Int32.toInt 65536 = 65536 by decide)
      have bz2113'' : gB z2113 65537 2147483647 := ⟨by omega, by omega⟩
      refine G_iinc (L' := [(1, .int 17), (0, .int z2113)]) (17) 0 dr_cJ6_numberOfTrailingZeros_0f7a4_26 rfl (by decide) (Nat.le_of_ble_eq_true rfl) rfl ?_
      refine G_iload_n 1 dr_cJ6_numberOfTrailingZeros_0f7a4_29 rfl ?_
      refine G_bipush 16 dr_cJ6_numberOfTrailingZeros_0f7a4_30 (by decide +kernel) ?_
      refine G_iushr dr_cJ6_numberOfTrailingZeros_0f7a4_32 (G_nam fun z2163 hz2163 => ?_)
      have bz2163 : gB z2163 (-2147483648) 2147483647 := gB_any z2163
      refine G_istore_n (L' := [(0, .int z2163), (1, .int 17)]) dr_cJ6_numberOfTrailingZeros_0f7a4_33 (Nat.le_of_ble_eq_true rfl) rfl ?_
      refine G_iload_n 0 dr_cJ6_numberOfTrailingZeros_0f7a4_34 rfl ?_
      refine G_sipush 256 dr_cJ6_numberOfTrailingZeros_0f7a4_35 (by decide +kernel) ?_
      refine G_icmp_le 49 dr_cJ6_numberOfTrailingZeros_0f7a4_38 (by decide +kernel) (fun hc2164 => ?_) (fun hc2164 => ?_)
      · have r2165 : z2163.toInt ≤ 256 := gj_le hc2164 (show Int32.toInt 256 = 256 by decide)
        have bz2163' : gB z2163 (-2147483648) 256 := ⟨by omega, by omega⟩
        refine G_iload_n 0 dr_cJ6_numberOfTrailingZeros_0f7a4_49 rfl ?_
        refine G_bipush 16 dr_cJ6_numberOfTrailingZeros_0f7a4_50 (by decide +kernel) ?_
        refine G_icmp_le 62 dr_cJ6_numberOfTrailingZeros_0f7a4_52 (by decide +kernel) (fun hc2166 => ?_) (fun hc2166 => ?_)
        · have r2167 : z2163.toInt ≤ 16 := gj_le hc2166 (show Int32.toInt 16 = 16 by decide)
          have bz2163'' : gB z2163 (-2147483648) 16 := ⟨by omega, by omega⟩
          refine G_iload_n 0 dr_cJ6_numberOfTrailingZeros_0f7a4_62 rfl ?_
          refine G_iconst 4 dr_cJ6_numberOfTrailingZeros_0f7a4_63 (by decide +kernel) ?_
          refine G_icmp_le 74 dr_cJ6_numberOfTrailingZeros_0f7a4_64 (by decide +kernel) (fun hc2168 => ?_) (fun hc2168 => ?_)
          · have r2169 : z2163.toInt ≤ 4 := gj_le hc2168 (show Int32.toInt 4 = 4 by decide)
            have bz2163''' : gB z2163 (-2147483648) 4 := ⟨by omega, by omega⟩
            refine G_iload_n 1 dr_cJ6_numberOfTrailingZeros_0f7a4_74 rfl ?_
            refine G_iload_n 0 dr_cJ6_numberOfTrailingZeros_0f7a4_75 rfl ?_
            refine G_iconst 1 dr_cJ6_numberOfTrailingZeros_0f7a4_76 (by decide +kernel) ?_
            refine G_iushr dr_cJ6_numberOfTrailingZeros_0f7a4_77 (G_nam fun z2170 hz2170 => ?_)
            have bz2170 : gB z2170 (-2147483648) 2147483647 := gB_any z2170
            refine G_iadd dr_cJ6_numberOfTrailingZeros_0f7a4_78 (G_nam fun z2171 hz2171 => ?_)
            have bz2171 : gB z2171 (-2147483648) 2147483647 := gB_any z2171
            have hm : (p2109 ^^^ (-1)) &&& (p2109 - 1) = z2113 := by rw [hz2113, hz2111, hz2112]
            have e0 : nz_s (z2113, 1) 65536 16 = (z2163, 17) := (if_pos (Int32.not_le.mp hc2116)).trans (by rw [hz2163]; exact Prod.ext rfl (show (1 : Int32) + 16 = 17 by decide))
            have e1 : nz_s (z2163, 17) 256 8 = (z2163, 17) := if_neg (Int32.not_lt.mpr hc2164)
            have e2 : nz_s (z2163, 17) 16 4 = (z2163, 17) := if_neg (Int32.not_lt.mpr hc2166)
            have e3 : nz_s (z2163, 17) 4 2 = (z2163, 17) := if_neg (Int32.not_lt.mpr hc2168)
            have eq : nz_q z2113 = (z2163, 17) := by unfold nz_q; rw [e0, e1, e2, e3]
            have hE : z2171 = nz_f ((p2109 ^^^ (-1)) &&& (p2109 - 1)) := by rw [hm, nz_f, if_pos hc2114, eq, hz2171, hz2170]; rfl
            exact G_iretA dr_cJ6_numberOfTrailingZeros_0f7a4_79 rfl (Nat.le_of_ble_eq_true rfl) (Nat.le_of_ble_eq_true rfl) ⟨z2171, rfl, rfl, (Nat.le_of_ble_eq_true rfl), (Nat.le_of_ble_eq_true rfl), hE⟩
          · have r2172 : 4 < z2163.toInt := gj_nle hc2168 (show Int32.toInt 4 = 4 by decide)
            have bz2163''' : gB z2163 5 16 := ⟨by omega, by omega⟩
            refine G_iinc (L' := [(1, .int 19), (0, .int z2163)]) (19) 1 dr_cJ6_numberOfTrailingZeros_0f7a4_67 rfl (by decide) (Nat.le_of_ble_eq_true rfl) rfl ?_
            refine G_iload_n 1 dr_cJ6_numberOfTrailingZeros_0f7a4_70 rfl ?_
            refine G_iconst 2 dr_cJ6_numberOfTrailingZeros_0f7a4_71 (by decide +kernel) ?_
            refine G_iushr dr_cJ6_numberOfTrailingZeros_0f7a4_72 (G_nam fun z2173 hz2173 => ?_)
            have bz2173 : gB z2173 (-2147483648) 2147483647 := gB_any z2173
            refine G_istore_n (L' := [(0, .int z2173), (1, .int 19)]) dr_cJ6_numberOfTrailingZeros_0f7a4_73 (Nat.le_of_ble_eq_true rfl) rfl ?_
            refine G_iload_n 1 dr_cJ6_numberOfTrailingZeros_0f7a4_74 rfl ?_
            refine G_iload_n 0 dr_cJ6_numberOfTrailingZeros_0f7a4_75 rfl ?_
            refine G_iconst 1 dr_cJ6_numberOfTrailingZeros_0f7a4_76 (by decide +kernel) ?_
            refine G_iushr dr_cJ6_numberOfTrailingZeros_0f7a4_77 (G_nam fun z2174 hz2174 => ?_)
            have bz2174 : gB z2174 (-2147483648) 2147483647 := gB_any z2174
            refine G_iadd dr_cJ6_numberOfTrailingZeros_0f7a4_78 (G_nam fun z2175 hz2175 => ?_)
            have bz2175 : gB z2175 (-2147483648) 2147483647 := gB_any z2175
            have hm : (p2109 ^^^ (-1)) &&& (p2109 - 1) = z2113 := by rw [hz2113, hz2111, hz2112]
            have e0 : nz_s (z2113, 1) 65536 16 = (z2163, 17) := (if_pos (Int32.not_le.mp hc2116)).trans (by rw [hz2163]; exact Prod.ext rfl (show (1 : Int32) + 16 = 17 by decide))
            have e1 : nz_s (z2163, 17) 256 8 = (z2163, 17) := if_neg (Int32.not_lt.mpr hc2164)
            have e2 : nz_s (z2163, 17) 16 4 = (z2163, 17) := if_neg (Int32.not_lt.mpr hc2166)
            have e3 : nz_s (z2163, 17) 4 2 = (z2173, 19) := (if_pos (Int32.not_le.mp hc2168)).trans (by rw [hz2173]; exact Prod.ext rfl (show (17 : Int32) + 2 = 19 by decide))
            have eq : nz_q z2113 = (z2173, 19) := by unfold nz_q; rw [e0, e1, e2, e3]
            have hE : z2175 = nz_f ((p2109 ^^^ (-1)) &&& (p2109 - 1)) := by rw [hm, nz_f, if_pos hc2114, eq, hz2175, hz2174]; rfl
            exact G_iretA dr_cJ6_numberOfTrailingZeros_0f7a4_79 rfl (Nat.le_of_ble_eq_true rfl) (Nat.le_of_ble_eq_true rfl) ⟨z2175, rfl, rfl, (Nat.le_of_ble_eq_true rfl), (Nat.le_of_ble_eq_true rfl), hE⟩
        · have r2176 : 16 < z2163.toInt := gj_nle hc2166 (show Int32.toInt 16 = 16 by decide)
          have bz2163'' : gB z2163 17 256 := ⟨by omega, by omega⟩
          refine G_iinc (L' := [(1, .int 21), (0, .int z2163)]) (21) 1 dr_cJ6_numberOfTrailingZeros_0f7a4_55 rfl (by decide) (Nat.le_of_ble_eq_true rfl) rfl ?_
          refine G_iload_n 1 dr_cJ6_numberOfTrailingZeros_0f7a4_58 rfl ?_
          refine G_iconst 4 dr_cJ6_numberOfTrailingZeros_0f7a4_59 (by decide +kernel) ?_
          refine G_iushr dr_cJ6_numberOfTrailingZeros_0f7a4_60 (G_nam fun z2177 hz2177 => ?_)
          have bz2177 : gB z2177 (-2147483648) 2147483647 := gB_any z2177
          refine G_istore_n (L' := [(0, .int z2177), (1, .int 21)]) dr_cJ6_numberOfTrailingZeros_0f7a4_61 (Nat.le_of_ble_eq_true rfl) rfl ?_
          refine G_iload_n 0 dr_cJ6_numberOfTrailingZeros_0f7a4_62 rfl ?_
          refine G_iconst 4 dr_cJ6_numberOfTrailingZeros_0f7a4_63 (by decide +kernel) ?_
          refine G_icmp_le 74 dr_cJ6_numberOfTrailingZeros_0f7a4_64 (by decide +kernel) (fun hc2178 => ?_) (fun hc2178 => ?_)
          · have r2179 : z2177.toInt ≤ 4 := gj_le hc2178 (show Int32.toInt 4 = 4 by decide)
            have bz2177' : gB z2177 (-2147483648) 4 := ⟨by omega, by omega⟩
            refine G_iload_n 1 dr_cJ6_numberOfTrailingZeros_0f7a4_74 rfl ?_
            refine G_iload_n 0 dr_cJ6_numberOfTrailingZeros_0f7a4_75 rfl ?_
            refine G_iconst 1 dr_cJ6_numberOfTrailingZeros_0f7a4_76 (by decide +kernel) ?_
            refine G_iushr dr_cJ6_numberOfTrailingZeros_0f7a4_77 (G_nam fun z2180 hz2180 => ?_)
            have bz2180 : gB z2180 (-2147483648) 2147483647 := gB_any z2180
            refine G_iadd dr_cJ6_numberOfTrailingZeros_0f7a4_78 (G_nam fun z2181 hz2181 => ?_)
            have bz2181 : gB z2181 (-2147483648) 2147483647 := gB_any z2181
            have hm : (p2109 ^^^ (-1)) &&& (p2109 - 1) = z2113 := by rw [hz2113, hz2111, hz2112]
            have e0 : nz_s (z2113, 1) 65536 16 = (z2163, 17) := (if_pos (Int32.not_le.mp hc2116)).trans (by rw [hz2163]; exact Prod.ext rfl (show (1 : Int32) + 16 = 17 by decide))
            have e1 : nz_s (z2163, 17) 256 8 = (z2163, 17) := if_neg (Int32.not_lt.mpr hc2164)
            have e2 : nz_s (z2163, 17) 16 4 = (z2177, 21) := (if_pos (Int32.not_le.mp hc2166)).trans (by rw [hz2177]; exact Prod.ext rfl (show (17 : Int32) + 4 = 21 by decide))
            have e3 : nz_s (z2177, 21) 4 2 = (z2177, 21) := if_neg (Int32.not_lt.mpr hc2178)
            have eq : nz_q z2113 = (z2177, 21) := by unfold nz_q; rw [e0, e1, e2, e3]
            have hE : z2181 = nz_f ((p2109 ^^^ (-1)) &&& (p2109 - 1)) := by rw [hm, nz_f, if_pos hc2114, eq, hz2181, hz2180]; rfl
            exact G_iretA dr_cJ6_numberOfTrailingZeros_0f7a4_79 rfl (Nat.le_of_ble_eq_true rfl) (Nat.le_of_ble_eq_true rfl) ⟨z2181, rfl, rfl, (Nat.le_of_ble_eq_true rfl), (Nat.le_of_ble_eq_true rfl), hE⟩
          · have r2182 : 4 < z2177.toInt := gj_nle hc2178 (show Int32.toInt 4 = 4 by decide)
            have bz2177' : gB z2177 5 2147483647 := ⟨by omega, by omega⟩
            refine G_iinc (L' := [(1, .int 23), (0, .int z2177)]) (23) 1 dr_cJ6_numberOfTrailingZeros_0f7a4_67 rfl (by decide) (Nat.le_of_ble_eq_true rfl) rfl ?_
            refine G_iload_n 1 dr_cJ6_numberOfTrailingZeros_0f7a4_70 rfl ?_
            refine G_iconst 2 dr_cJ6_numberOfTrailingZeros_0f7a4_71 (by decide +kernel) ?_
            refine G_iushr dr_cJ6_numberOfTrailingZeros_0f7a4_72 (G_nam fun z2183 hz2183 => ?_)
            have bz2183 : gB z2183 (-2147483648) 2147483647 := gB_any z2183
            refine G_istore_n (L' := [(0, .int z2183), (1, .int 23)]) dr_cJ6_numberOfTrailingZeros_0f7a4_73 (Nat.le_of_ble_eq_true rfl) rfl ?_
            refine G_iload_n 1 dr_cJ6_numberOfTrailingZeros_0f7a4_74 rfl ?_
            refine G_iload_n 0 dr_cJ6_numberOfTrailingZeros_0f7a4_75 rfl ?_
            refine G_iconst 1 dr_cJ6_numberOfTrailingZeros_0f7a4_76 (by decide +kernel) ?_
            refine G_iushr dr_cJ6_numberOfTrailingZeros_0f7a4_77 (G_nam fun z2184 hz2184 => ?_)
            have bz2184 : gB z2184 (-2147483648) 2147483647 := gB_any z2184
            refine G_iadd dr_cJ6_numberOfTrailingZeros_0f7a4_78 (G_nam fun z2185 hz2185 => ?_)
            have bz2185 : gB z2185 (-2147483648) 2147483647 := gB_any z2185
            have hm : (p2109 ^^^ (-1)) &&& (p2109 - 1) = z2113 := by rw [hz2113, hz2111, hz2112]
            have e0 : nz_s (z2113, 1) 65536 16 = (z2163, 17) := (if_pos (Int32.not_le.mp hc2116)).trans (by rw [hz2163]; exact Prod.ext rfl (show (1 : Int32) + 16 = 17 by decide))
            have e1 : nz_s (z2163, 17) 256 8 = (z2163, 17) := if_neg (Int32.not_lt.mpr hc2164)
            have e2 : nz_s (z2163, 17) 16 4 = (z2177, 21) := (if_pos (Int32.not_le.mp hc2166)).trans (by rw [hz2177]; exact Prod.ext rfl (show (17 : Int32) + 4 = 21 by decide))
            have e3 : nz_s (z2177, 21) 4 2 = (z2183, 23) := (if_pos (Int32.not_le.mp hc2178)).trans (by rw [hz2183]; exact Prod.ext rfl (show (21 : Int32) + 2 = 23 by decide))
            have eq : nz_q z2113 = (z2183, 23) := by unfold nz_q; rw [e0, e1, e2, e3]
            have hE : z2185 = nz_f ((p2109 ^^^ (-1)) &&& (p2109 - 1)) := by rw [hm, nz_f, if_pos hc2114, eq, hz2185, hz2184]; rfl
            exact G_iretA dr_cJ6_numberOfTrailingZeros_0f7a4_79 rfl (Nat.le_of_ble_eq_true rfl) (Nat.le_of_ble_eq_true rfl) ⟨z2185, rfl, rfl, (Nat.le_of_ble_eq_true rfl), (Nat.le_of_ble_eq_true rfl), hE⟩
      · have r2186 : 256 < z2163.toInt := gj_nle hc2164 (show Int32.toInt 256 = 256 by decide)
        have bz2163' : gB z2163 257 2147483647 := ⟨by omega, by omega⟩
        refine G_iinc (L' := [(1, .int 25), (0, .int z2163)]) (25) 1 dr_cJ6_numberOfTrailingZeros_0f7a4_41 rfl (by decide) (Nat.le_of_ble_eq_true rfl) rfl ?_
        refine G_iload_n 1 dr_cJ6_numberOfTrailingZeros_0f7a4_44 rfl ?_
        refine G_bipush 8 dr_cJ6_numberOfTrailingZeros_0f7a4_45 (by decide +kernel) ?_
        refine G_iushr dr_cJ6_numberOfTrailingZeros_0f7a4_47 (G_nam fun z2187 hz2187 => ?_)
        have bz2187 : gB z2187 (-2147483648) 2147483647 := gB_any z2187
        refine G_istore_n (L' := [(0, .int z2187), (1, .int 25)]) dr_cJ6_numberOfTrailingZeros_0f7a4_48 (Nat.le_of_ble_eq_true rfl) rfl ?_
        refine G_iload_n 0 dr_cJ6_numberOfTrailingZeros_0f7a4_49 rfl ?_
        refine G_bipush 16 dr_cJ6_numberOfTrailingZeros_0f7a4_50 (by decide +kernel) ?_
        refine G_icmp_le 62 dr_cJ6_numberOfTrailingZeros_0f7a4_52 (by decide +kernel) (fun hc2188 => ?_) (fun hc2188 => ?_)
        · have r2189 : z2187.toInt ≤ 16 := gj_le hc2188 (show Int32.toInt 16 = 16 by decide)
          have bz2187' : gB z2187 (-2147483648) 16 := ⟨by omega, by omega⟩
          refine G_iload_n 0 dr_cJ6_numberOfTrailingZeros_0f7a4_62 rfl ?_
          refine G_iconst 4 dr_cJ6_numberOfTrailingZeros_0f7a4_63 (by decide +kernel) ?_
          refine G_icmp_le 74 dr_cJ6_numberOfTrailingZeros_0f7a4_64 (by decide +kernel) (fun hc2190 => ?_) (fun hc2190 => ?_)
          · have r2191 : z2187.toInt ≤ 4 := gj_le hc2190 (show Int32.toInt 4 = 4 by decide)
            have bz2187'' : gB z2187 (-2147483648) 4 := ⟨by omega, by omega⟩
            refine G_iload_n 1 dr_cJ6_numberOfTrailingZeros_0f7a4_74 rfl ?_
            refine G_iload_n 0 dr_cJ6_numberOfTrailingZeros_0f7a4_75 rfl ?_
            refine G_iconst 1 dr_cJ6_numberOfTrailingZeros_0f7a4_76 (by decide +kernel) ?_
            refine G_iushr dr_cJ6_numberOfTrailingZeros_0f7a4_77 (G_nam fun z2192 hz2192 => ?_)
            have bz2192 : gB z2192 (-2147483648) 2147483647 := gB_any z2192
            refine G_iadd dr_cJ6_numberOfTrailingZeros_0f7a4_78 (G_nam fun z2193 hz2193 => ?_)
            have bz2193 : gB z2193 (-2147483648) 2147483647 := gB_any z2193
            have hm : (p2109 ^^^ (-1)) &&& (p2109 - 1) = z2113 := by rw [hz2113, hz2111, hz2112]
            have e0 : nz_s (z2113, 1) 65536 16 = (z2163, 17) := (if_pos (Int32.not_le.mp hc2116)).trans (by rw [hz2163]; exact Prod.ext rfl (show (1 : Int32) + 16 = 17 by decide))
            have e1 : nz_s (z2163, 17) 256 8 = (z2187, 25) := (if_pos (Int32.not_le.mp hc2164)).trans (by rw [hz2187]; exact Prod.ext rfl (show (17 : Int32) + 8 = 25 by decide))
            have e2 : nz_s (z2187, 25) 16 4 = (z2187, 25) := if_neg (Int32.not_lt.mpr hc2188)
            have e3 : nz_s (z2187, 25) 4 2 = (z2187, 25) := if_neg (Int32.not_lt.mpr hc2190)
            have eq : nz_q z2113 = (z2187, 25) := by unfold nz_q; rw [e0, e1, e2, e3]
            have hE : z2193 = nz_f ((p2109 ^^^ (-1)) &&& (p2109 - 1)) := by rw [hm, nz_f, if_pos hc2114, eq, hz2193, hz2192]; rfl
            exact G_iretA dr_cJ6_numberOfTrailingZeros_0f7a4_79 rfl (Nat.le_of_ble_eq_true rfl) (Nat.le_of_ble_eq_true rfl) ⟨z2193, rfl, rfl, (Nat.le_of_ble_eq_true rfl), (Nat.le_of_ble_eq_true rfl), hE⟩
          · have r2194 : 4 < z2187.toInt := gj_nle hc2190 (show Int32.toInt 4 = 4 by decide)
            have bz2187'' : gB z2187 5 16 := ⟨by omega, by omega⟩
            refine G_iinc (L' := [(1, .int 27), (0, .int z2187)]) (27) 1 dr_cJ6_numberOfTrailingZeros_0f7a4_67 rfl (by decide) (Nat.le_of_ble_eq_true rfl) rfl ?_
            refine G_iload_n 1 dr_cJ6_numberOfTrailingZeros_0f7a4_70 rfl ?_
            refine G_iconst 2 dr_cJ6_numberOfTrailingZeros_0f7a4_71 (by decide +kernel) ?_
            refine G_iushr dr_cJ6_numberOfTrailingZeros_0f7a4_72 (G_nam fun z2195 hz2195 => ?_)
            have bz2195 : gB z2195 (-2147483648) 2147483647 := gB_any z2195
            refine G_istore_n (L' := [(0, .int z2195), (1, .int 27)]) dr_cJ6_numberOfTrailingZeros_0f7a4_73 (Nat.le_of_ble_eq_true rfl) rfl ?_
            refine G_iload_n 1 dr_cJ6_numberOfTrailingZeros_0f7a4_74 rfl ?_
            refine G_iload_n 0 dr_cJ6_numberOfTrailingZeros_0f7a4_75 rfl ?_
            refine G_iconst 1 dr_cJ6_numberOfTrailingZeros_0f7a4_76 (by decide +kernel) ?_
            refine G_iushr dr_cJ6_numberOfTrailingZeros_0f7a4_77 (G_nam fun z2196 hz2196 => ?_)
            have bz2196 : gB z2196 (-2147483648) 2147483647 := gB_any z2196
            refine G_iadd dr_cJ6_numberOfTrailingZeros_0f7a4_78 (G_nam fun z2197 hz2197 => ?_)
            have bz2197 : gB z2197 (-2147483648) 2147483647 := gB_any z2197
            have hm : (p2109 ^^^ (-1)) &&& (p2109 - 1) = z2113 := by rw [hz2113, hz2111, hz2112]
            have e0 : nz_s (z2113, 1) 65536 16 = (z2163, 17) := (if_pos (Int32.not_le.mp hc2116)).trans (by rw [hz2163]; exact Prod.ext rfl (show (1 : Int32) + 16 = 17 by decide))
            have e1 : nz_s (z2163, 17) 256 8 = (z2187, 25) := (if_pos (Int32.not_le.mp hc2164)).trans (by rw [hz2187]; exact Prod.ext rfl (show (17 : Int32) + 8 = 25 by decide))
            have e2 : nz_s (z2187, 25) 16 4 = (z2187, 25) := if_neg (Int32.not_lt.mpr hc2188)
            have e3 : nz_s (z2187, 25) 4 2 = (z2195, 27) := (if_pos (Int32.not_le.mp hc2190)).trans (by rw [hz2195]; exact Prod.ext rfl (show (25 : Int32) + 2 = 27 by decide))
            have eq : nz_q z2113 = (z2195, 27) := by unfold nz_q; rw [e0, e1, e2, e3]
            have hE : z2197 = nz_f ((p2109 ^^^ (-1)) &&& (p2109 - 1)) := by rw [hm, nz_f, if_pos hc2114, eq, hz2197, hz2196]; rfl
            exact G_iretA dr_cJ6_numberOfTrailingZeros_0f7a4_79 rfl (Nat.le_of_ble_eq_true rfl) (Nat.le_of_ble_eq_true rfl) ⟨z2197, rfl, rfl, (Nat.le_of_ble_eq_true rfl), (Nat.le_of_ble_eq_true rfl), hE⟩
        · have r2198 : 16 < z2187.toInt := gj_nle hc2188 (show Int32.toInt 16 = 16 by decide)
          have bz2187' : gB z2187 17 2147483647 := ⟨by omega, by omega⟩
          refine G_iinc (L' := [(1, .int 29), (0, .int z2187)]) (29) 1 dr_cJ6_numberOfTrailingZeros_0f7a4_55 rfl (by decide) (Nat.le_of_ble_eq_true rfl) rfl ?_
          refine G_iload_n 1 dr_cJ6_numberOfTrailingZeros_0f7a4_58 rfl ?_
          refine G_iconst 4 dr_cJ6_numberOfTrailingZeros_0f7a4_59 (by decide +kernel) ?_
          refine G_iushr dr_cJ6_numberOfTrailingZeros_0f7a4_60 (G_nam fun z2199 hz2199 => ?_)
          have bz2199 : gB z2199 (-2147483648) 2147483647 := gB_any z2199
          refine G_istore_n (L' := [(0, .int z2199), (1, .int 29)]) dr_cJ6_numberOfTrailingZeros_0f7a4_61 (Nat.le_of_ble_eq_true rfl) rfl ?_
          refine G_iload_n 0 dr_cJ6_numberOfTrailingZeros_0f7a4_62 rfl ?_
          refine G_iconst 4 dr_cJ6_numberOfTrailingZeros_0f7a4_63 (by decide +kernel) ?_
          refine G_icmp_le 74 dr_cJ6_numberOfTrailingZeros_0f7a4_64 (by decide +kernel) (fun hc2200 => ?_) (fun hc2200 => ?_)
          · have r2201 : z2199.toInt ≤ 4 := gj_le hc2200 (show Int32.toInt 4 = 4 by decide)
            have bz2199' : gB z2199 (-2147483648) 4 := ⟨by omega, by omega⟩
            refine G_iload_n 1 dr_cJ6_numberOfTrailingZeros_0f7a4_74 rfl ?_
            refine G_iload_n 0 dr_cJ6_numberOfTrailingZeros_0f7a4_75 rfl ?_
            refine G_iconst 1 dr_cJ6_numberOfTrailingZeros_0f7a4_76 (by decide +kernel) ?_
            refine G_iushr dr_cJ6_numberOfTrailingZeros_0f7a4_77 (G_nam fun z2202 hz2202 => ?_)
            have bz2202 : gB z2202 (-2147483648) 2147483647 := gB_any z2202
            refine G_iadd dr_cJ6_numberOfTrailingZeros_0f7a4_78 (G_nam fun z2203 hz2203 => ?_)
            have bz2203 : gB z2203 (-2147483648) 2147483647 := gB_any z2203
            have hm : (p2109 ^^^ (-1)) &&& (p2109 - 1) = z2113 := by rw [hz2113, hz2111, hz2112]
            have e0 : nz_s (z2113, 1) 65536 16 = (z2163, 17) := (if_pos (Int32.not_le.mp hc2116)).trans (by rw [hz2163]; exact Prod.ext rfl (show (1 : Int32) + 16 = 17 by decide))
            have e1 : nz_s (z2163, 17) 256 8 = (z2187, 25) := (if_pos (Int32.not_le.mp hc2164)).trans (by rw [hz2187]; exact Prod.ext rfl (show (17 : Int32) + 8 = 25 by decide))
            have e2 : nz_s (z2187, 25) 16 4 = (z2199, 29) := (if_pos (Int32.not_le.mp hc2188)).trans (by rw [hz2199]; exact Prod.ext rfl (show (25 : Int32) + 4 = 29 by decide))
            have e3 : nz_s (z2199, 29) 4 2 = (z2199, 29) := if_neg (Int32.not_lt.mpr hc2200)
            have eq : nz_q z2113 = (z2199, 29) := by unfold nz_q; rw [e0, e1, e2, e3]
            have hE : z2203 = nz_f ((p2109 ^^^ (-1)) &&& (p2109 - 1)) := by rw [hm, nz_f, if_pos hc2114, eq, hz2203, hz2202]; rfl
            exact G_iretA dr_cJ6_numberOfTrailingZeros_0f7a4_79 rfl (Nat.le_of_ble_eq_true rfl) (Nat.le_of_ble_eq_true rfl) ⟨z2203, rfl, rfl, (Nat.le_of_ble_eq_true rfl), (Nat.le_of_ble_eq_true rfl), hE⟩
          · have r2204 : 4 < z2199.toInt := gj_nle hc2200 (show Int32.toInt 4 = 4 by decide)
            have bz2199' : gB z2199 5 2147483647 := ⟨by omega, by omega⟩
            refine G_iinc (L' := [(1, .int 31), (0, .int z2199)]) (31) 1 dr_cJ6_numberOfTrailingZeros_0f7a4_67 rfl (by decide) (Nat.le_of_ble_eq_true rfl) rfl ?_
            refine G_iload_n 1 dr_cJ6_numberOfTrailingZeros_0f7a4_70 rfl ?_
            refine G_iconst 2 dr_cJ6_numberOfTrailingZeros_0f7a4_71 (by decide +kernel) ?_
            refine G_iushr dr_cJ6_numberOfTrailingZeros_0f7a4_72 (G_nam fun z2205 hz2205 => ?_)
            have bz2205 : gB z2205 (-2147483648) 2147483647 := gB_any z2205
            refine G_istore_n (L' := [(0, .int z2205), (1, .int 31)]) dr_cJ6_numberOfTrailingZeros_0f7a4_73 (Nat.le_of_ble_eq_true rfl) rfl ?_
            refine G_iload_n 1 dr_cJ6_numberOfTrailingZeros_0f7a4_74 rfl ?_
            refine G_iload_n 0 dr_cJ6_numberOfTrailingZeros_0f7a4_75 rfl ?_
            refine G_iconst 1 dr_cJ6_numberOfTrailingZeros_0f7a4_76 (by decide +kernel) ?_
            refine G_iushr dr_cJ6_numberOfTrailingZeros_0f7a4_77 (G_nam fun z2206 hz2206 => ?_)
            have bz2206 : gB z2206 (-2147483648) 2147483647 := gB_any z2206
            refine G_iadd dr_cJ6_numberOfTrailingZeros_0f7a4_78 (G_nam fun z2207 hz2207 => ?_)
            have bz2207 : gB z2207 (-2147483648) 2147483647 := gB_any z2207
            have hm : (p2109 ^^^ (-1)) &&& (p2109 - 1) = z2113 := by rw [hz2113, hz2111, hz2112]
            have e0 : nz_s (z2113, 1) 65536 16 = (z2163, 17) := (if_pos (Int32.not_le.mp hc2116)).trans (by rw [hz2163]; exact Prod.ext rfl (show (1 : Int32) + 16 = 17 by decide))
            have e1 : nz_s (z2163, 17) 256 8 = (z2187, 25) := (if_pos (Int32.not_le.mp hc2164)).trans (by rw [hz2187]; exact Prod.ext rfl (show (17 : Int32) + 8 = 25 by decide))
            have e2 : nz_s (z2187, 25) 16 4 = (z2199, 29) := (if_pos (Int32.not_le.mp hc2188)).trans (by rw [hz2199]; exact Prod.ext rfl (show (25 : Int32) + 4 = 29 by decide))
            have e3 : nz_s (z2199, 29) 4 2 = (z2205, 31) := (if_pos (Int32.not_le.mp hc2200)).trans (by rw [hz2205]; exact Prod.ext rfl (show (29 : Int32) + 2 = 31 by decide))
            have eq : nz_q z2113 = (z2205, 31) := by unfold nz_q; rw [e0, e1, e2, e3]
            have hE : z2207 = nz_f ((p2109 ^^^ (-1)) &&& (p2109 - 1)) := by rw [hm, nz_f, if_pos hc2114, eq, hz2207, hz2206]; rfl
            exact G_iretA dr_cJ6_numberOfTrailingZeros_0f7a4_79 rfl (Nat.le_of_ble_eq_true rfl) (Nat.le_of_ble_eq_true rfl) ⟨z2207, rfl, rfl, (Nat.le_of_ble_eq_true rfl), (Nat.le_of_ble_eq_true rfl), hE⟩
  · have r2208 : z2113.toInt ≤ 0 := gj_nltL hc2114 (show Int32.toInt 0 = 0 by decide)
    have bz2113' : gB z2113 (-2147483648) 0 := ⟨by omega, by omega⟩
    refine G_iload_n 0 dr_cJ6_numberOfTrailingZeros_0f7a4_12 rfl ?_
    refine G_bipush 32 dr_cJ6_numberOfTrailingZeros_0f7a4_13 (by decide +kernel) ?_
    refine G_iand dr_cJ6_numberOfTrailingZeros_0f7a4_15 (G_nam fun z2209 hz2209 => ?_)
    have bz2209 : gB z2209 0 32 := gB_and hz2209 (gBl (show Int32.toInt 32 = 32 by decide)) (by decide)
    have hm : (p2109 ^^^ (-1)) &&& (p2109 - 1) = z2113 := by rw [hz2113, hz2111, hz2112]
    have hE : z2209 = nz_f ((p2109 ^^^ (-1)) &&& (p2109 - 1)) := by rw [hm, nz_f, if_neg hc2114, hz2209]
    exact G_iretA dr_cJ6_numberOfTrailingZeros_0f7a4_16 rfl (Nat.le_of_ble_eq_true rfl) (Nat.le_of_ble_eq_true rfl) ⟨z2209, rfl, rfl, (Nat.le_of_ble_eq_true rfl), (Nat.le_of_ble_eq_true rfl), hE⟩
theorem nz_ok2 {i r : Int32} (h : ¬ i = 0) (hr : r = nz_f ((i ^^^ (-1)) &&& (i - 1))) : 0 ≤ r.toInt ∧ r.toInt ≤ 31 ∧ i.toBitVec.getLsbD r.toInt.toNat = true ∧ ∀ k, k < r.toInt.toNat → i.toBitVec.getLsbD k = false := by
  have hx : i.toBitVec ≠ 0#32 := fun e => h (Int32.toBitVec_inj.mp e)
  obtain ⟨j, h1, h2, h3⟩ := nz_least hx
  have hm : (i ^^^ (-1)) &&& (i - 1) = Int32.ofNat (2 ^ j - 1) := by
    apply Int32.toBitVec_inj.mp
    apply BitVec.eq_of_getLsbD_eq
    intro k hk
    have e1 : ((i ^^^ (-1)) &&& (i - 1)).toBitVec = ~~~i.toBitVec &&& (i.toBitVec - 1#32) := by
      rw [Int32.toBitVec_and, Int32.toBitVec_xor, Int32.toBitVec_sub]
      congr 1
      show i.toBitVec ^^^ BitVec.allOnes 32 = _
      rw [BitVec.xor_allOnes]
    rw [e1, nz_mask h2 h3 k hk]
    show _ = (BitVec.ofNat 32 (2 ^ j - 1)).getLsbD k
    rw [BitVec.getLsbD_ofNat, Nat.testBit_two_pow_sub_one]
    simp [hk]
  have ht := nz_tab ⟨j, h1⟩
  have hj : r.toInt = j := by rw [hr, hm]; exact ht
  have hj2 : r.toInt.toNat = j := by omega
  refine ⟨by omega, by omega, ?_, ?_⟩
  · rw [hj2]
    exact h2
  · rw [hj2]
    exact h3
theorem lb_Qlt {x : Int64} {m : Int} {o : Int32} (h : lb_Q x m) (h0 : 0 ≤ o.toInt) (hb : x.toBitVec.getLsbD o.toInt.toNat = true) : o.toInt < m := by
  have q := h _ (BitVec.lt_of_getLsbD hb) hb
  omega
theorem nz_64_32 {u : Int64} {i : Nat} (hi : i < 32) : u.toInt32.toBitVec.getLsbD i = u.toBitVec.getLsbD i := by
  show (u.toBitVec.signExtend 32).getLsbD i = _
  rw [BitVec.getLsbD_signExtend, if_pos (by omega)]
  simp [hi]
theorem nzl_lo {u : Int64} {x o : Int32} (hx : x = u.toInt32) (h : ¬ x = 0) (ho : o = nz_f ((x ^^^ (-1)) &&& (x - 1))) : 0 ≤ o.toInt ∧ o.toInt ≤ 63 ∧ u.toBitVec.getLsbD o.toInt.toNat = true ∧ ∀ i, i < o.toInt.toNat → u.toBitVec.getLsbD i = false := by
  obtain ⟨a, b, c, d⟩ := nz_ok2 h ho
  refine ⟨a, by omega, ?_, fun i hi => ?_⟩
  · rw [← nz_64_32 (by omega), ← hx]
    exact c
  · rw [← nz_64_32 (by omega), ← hx]
    exact d i hi
theorem nzl_hi {u v : Int64} {x y o z : Int32} (hx : x = u.toInt32) (h : x = 0) (hv : v = (u.toUInt64 >>> ((32 : Int32).toInt64.toUInt64 &&& Int64.toUInt64 63)).toInt64) (hy : y = v.toInt32) (ho : o = nz_f ((y ^^^ (-1)) &&& (y - 1))) (hz : z = 32 + o) (hu : ¬ u = 0) : 0 ≤ z.toInt ∧ z.toInt ≤ 63 ∧ u.toBitVec.getLsbD z.toInt.toNat = true ∧ ∀ i, i < z.toInt.toNat → u.toBitVec.getLsbD i = false := by
  have hc : ((32 : Int32).toInt64.toUInt64 &&& Int64.toUInt64 63) = 32 := by decide
  have hvb : v.toBitVec = u.toBitVec >>> (32 : Nat) := by rw [hv, hc]; rfl
  have hb : ∀ i, v.toBitVec.getLsbD i = u.toBitVec.getLsbD (32 + i) := fun i => by rw [hvb, BitVec.getLsbD_ushiftRight]
  have hy0 : ¬ y = 0 := fun h0 => hu (by
    apply Int64.toBitVec_inj.mp
    apply BitVec.eq_of_getLsbD_eq
    intro i hi
    have hz0 : (0 : Int64).toBitVec.getLsbD i = false := by show (0#64).getLsbD i = false; exact BitVec.getLsbD_zero
    rw [hz0]
    by_cases h32 : i < 32
    · rw [← nz_64_32 h32, ← hx, h]; show (0#32).getLsbD i = false; exact BitVec.getLsbD_zero
    · have e := hb (i - 32)
      rw [show 32 + (i - 32) = i by omega] at e
      rw [← e, ← nz_64_32 (by omega), ← hy, h0]; show (0#32).getLsbD _ = false; exact BitVec.getLsbD_zero)
  obtain ⟨a, b, c, d⟩ := nz_ok2 hy0 ho
  have q : Int32.toInt 32 = 32 := by decide
  have e : z.toInt = 32 + o.toInt := by rw [hz, Int32.toInt_add, q]; exact Int.bmod_eq_of_le (by omega) (by omega)
  refine ⟨by omega, by omega, ?_, fun i hi => ?_⟩
  · have c1 : v.toBitVec.getLsbD o.toInt.toNat = true := by rw [← nz_64_32 (by omega), ← hy]; exact c
    rw [hb] at c1
    rw [e, show (32 + o.toInt).toNat = 32 + o.toInt.toNat by omega]
    exact c1
  · by_cases h32 : i < 32
    · rw [← nz_64_32 h32, ← hx, h]; show (0#32).getLsbD i = false; exact BitVec.getLsbD_zero
    · have e2 := hb (i - 32)
      rw [show 32 + (i - 32) = i by omega] at e2
      rw [← e2, ← nz_64_32 (by omega), ← hy]
      exact d _ (by omega)
def nzp_long (P : List Nat) (F : Nat → va_E) (u : Int64) : Option Value → va_W → Nat → Nat → Prop := fun r w dc ds => ∃ o : Int32, r = some (.int o) ∧ w = va_pl P F ∧ dc ≤ 0 ∧ ds ≤ 0 ∧ (¬ u = 0 → 0 ≤ o.toInt ∧ o.toInt ≤ 63 ∧ u.toBitVec.getLsbD o.toInt.toNat = true ∧ ∀ i, i < o.toInt.toNat → u.toBitVec.getLsbD i = false)
set_option maxRecDepth 100000 in
set_option maxHeartbeats 4000000 in
theorem nzc_Long_numberOfTrailingZeros (l : Launch) (hl0 : l.stackTraces = false) (D : va_G) (I : FieldType → ClassId) (P2100 : List Nat) (F2101 : Nat → va_E) (pl2102 : Int64)  : CtA (gV D I) l yJ13_numberOfTrailingZeros_95d88 cJ13_numberOfTrailingZeros_95d88 3 (some FieldType.int) 1 21 0 0 [.long pl2102] (va_pl P2100 F2101) (nzp_long P2100 F2101 pl2102) gNA := by
  refine CtA_ofF hl0 (by decide +kernel) (Nat.le_of_ble_eq_true rfl) ?_
  refine G_lload_n 0 dr_cJ13_numberOfTrailingZeros_95d88_0 rfl ?_
  refine G_l2i dr_cJ13_numberOfTrailingZeros_95d88_1 (G_nam fun z2104 hz2104 => ?_)
  have bz2104 : gB z2104 (-2147483648) 2147483647 := gB_any z2104
  refine G_istore_n (L' := [(2, .int z2104), (0, .long pl2102)]) dr_cJ13_numberOfTrailingZeros_95d88_2 (Nat.le_of_ble_eq_true rfl) rfl ?_
  refine G_iload_n 0 dr_cJ13_numberOfTrailingZeros_95d88_3 rfl ?_
  refine G_if_ne 21 dr_cJ13_numberOfTrailingZeros_95d88_4 (by decide +kernel) (fun hc2105 => ?_) (fun hc2105 => ?_)
  · have r2106 : z2104.toInt ≠ 0 := gj_neq hc2105 (show Int32.toInt 0 = 0 by decide)
    refine G_iload_n 0 dr_cJ13_numberOfTrailingZeros_95d88_21 rfl ?_
    refine Gw_callS (As := [.int z2104]) (gV_ok D I) (nzc_Integer_numberOfTrailingZeros l hl0 D I P2100 F2101 z2104 ) dr_cJ13_numberOfTrailingZeros_95d88_22 ⟨wr_11_4, wr_1_35, wr_11_6, by decide, rfl, (Nat.le_of_ble_eq_true rfl), (Nat.le_of_ble_eq_true rfl)⟩ wr_11_5 (show 0 + 0 ≤ 0 by first | omega | decide) (show 0 + 0 ≤ 0 by first | omega | decide) (Nat.le_of_ble_eq_true rfl) (fun r2214 w2215 dc2211 ds2212 hp2213 => ?_) (fun _ _ _ _ _ z => z.elim)
    obtain ⟨o2216, rfl, rfl, hdc, hds, hO⟩ := hp2213
    have bo2216 := gB_any o2216
    change G _ _ _ _ _ _ _ (.int o2216 :: _) _ _ _
    refine G_widen (cs' := 0) (sl' := 0) (by omega) (by omega) ?_
    exact G_iretA dr_cJ13_numberOfTrailingZeros_95d88_25 rfl (Nat.le_of_ble_eq_true rfl) (Nat.le_of_ble_eq_true rfl) ⟨o2216, rfl, rfl, (Nat.le_of_ble_eq_true rfl), (Nat.le_of_ble_eq_true rfl), fun _ => nzl_lo hz2104 hc2105 hO⟩
  · have r2217 : z2104.toInt = 0 := gj_eq hc2105 (show Int32.toInt 0 = 0 by decide)
    have bz2104' : gB z2104 0 0 := ⟨by omega, by omega⟩
    refine G_bipush 32 dr_cJ13_numberOfTrailingZeros_95d88_7 (by decide +kernel) ?_
    refine G_lload_n 1 dr_cJ13_numberOfTrailingZeros_95d88_9 rfl ?_
    refine G_bipush 32 dr_cJ13_numberOfTrailingZeros_95d88_10 (by decide +kernel) ?_
    refine G_lushr dr_cJ13_numberOfTrailingZeros_95d88_12 (G_namL fun u2218 hu2218 => ?_)
    refine G_l2i dr_cJ13_numberOfTrailingZeros_95d88_13 (G_nam fun z2219 hz2219 => ?_)
    have bz2219 : gB z2219 (-2147483648) 2147483647 := gB_any z2219
    refine Gw_callS (As := [.int z2219]) (gV_ok D I) (nzc_Integer_numberOfTrailingZeros l hl0 D I P2100 F2101 z2219 ) dr_cJ13_numberOfTrailingZeros_95d88_14 ⟨wr_11_4, wr_1_35, wr_11_6, by decide, rfl, (Nat.le_of_ble_eq_true rfl), (Nat.le_of_ble_eq_true rfl)⟩ wr_11_5 (show 0 + 0 ≤ 0 by first | omega | decide) (show 0 + 0 ≤ 0 by first | omega | decide) (Nat.le_of_ble_eq_true rfl) (fun r2223 w2224 dc2220 ds2221 hp2222 => ?_) (fun _ _ _ _ _ z => z.elim)
    obtain ⟨o2225, rfl, rfl, hdc, hds, hO⟩ := hp2222
    have bo2225 := gB_any o2225
    change G _ _ _ _ _ _ _ (.int o2225 :: _) _ _ _
    refine G_widen (cs' := 0) (sl' := 0) (by omega) (by omega) ?_
    refine G_iadd dr_cJ13_numberOfTrailingZeros_95d88_17 (G_nam fun z2226 hz2226 => ?_)
    have bz2226 : gB z2226 (-2147483648) 2147483647 := gB_any z2226
    refine G_goto 25 dr_cJ13_numberOfTrailingZeros_95d88_18 (by decide +kernel) ?_
    exact G_iretA dr_cJ13_numberOfTrailingZeros_95d88_25 rfl (Nat.le_of_ble_eq_true rfl) (Nat.le_of_ble_eq_true rfl) ⟨z2226, rfl, rfl, (Nat.le_of_ble_eq_true rfl), (Nat.le_of_ble_eq_true rfl), fun hu => nzl_hi hz2104 hc2105 hu2218 hz2219 hO hz2226 hu⟩
