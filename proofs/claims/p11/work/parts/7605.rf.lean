theorem dr_cX17_result_0 : decode cX17_result 0 = .ok (.iload_n 0, 1) := by decide +kernel
theorem dr_cX17_result_1 : decode cX17_result 1 = .ok (.tableswitch 201 1 13 #[67, 74, 81, 88, 103, 118, 125, 132, 139, 149, 159, 173, 187], 67) := by decide +kernel
theorem dr_cX17_result_68 : decode cX17_result 68 = .ok (.iload_n 1, 1) := by decide +kernel
theorem dr_cX17_result_69 : decode cX17_result 69 = .ok (.iload_n 2, 1) := by decide +kernel
theorem dr_cX17_result_70 : decode cX17_result 70 = .ok (.iadd, 1) := by decide +kernel
theorem dr_cX17_result_71 : decode cX17_result 71 = .ok (.istore_n 3, 1) := by decide +kernel
theorem dr_cX17_result_72 : decode cX17_result 72 = .ok (.goto 141, 3) := by decide +kernel
theorem dr_cX17_result_213 : decode cX17_result 213 = .ok (.iload_n 3, 1) := by decide +kernel
theorem dr_cX17_result_214 : decode cX17_result 214 = .ok (.i2l, 1) := by decide +kernel
theorem dr_cX17_result_215 : decode cX17_result 215 = .ok (.ldc2_w 269, 3) := by decide +kernel
theorem wr_11_108 : (Jvm.Cond.constantLong "SpillForgeModel" (269 : Nat) (4294967295 : Int64)) ∈ gw := gw_11 108 rfl rfl
theorem dr_cX17_result_218 : decode cX17_result 218 = .ok (.land, 1) := by decide +kernel
theorem dr_cX17_result_219 : decode cX17_result 219 = .ok (.lreturn, 1) := by decide +kernel
theorem dr_cX17_result_75 : decode cX17_result 75 = .ok (.iload_n 1, 1) := by decide +kernel
theorem dr_cX17_result_76 : decode cX17_result 76 = .ok (.iload_n 2, 1) := by decide +kernel
theorem dr_cX17_result_77 : decode cX17_result 77 = .ok (.isub, 1) := by decide +kernel
theorem dr_cX17_result_78 : decode cX17_result 78 = .ok (.istore_n 3, 1) := by decide +kernel
theorem dr_cX17_result_79 : decode cX17_result 79 = .ok (.goto 134, 3) := by decide +kernel
theorem dr_cX17_result_82 : decode cX17_result 82 = .ok (.iload_n 1, 1) := by decide +kernel
theorem dr_cX17_result_83 : decode cX17_result 83 = .ok (.iload_n 2, 1) := by decide +kernel
theorem dr_cX17_result_84 : decode cX17_result 84 = .ok (.imul, 1) := by decide +kernel
theorem dr_cX17_result_85 : decode cX17_result 85 = .ok (.istore_n 3, 1) := by decide +kernel
theorem dr_cX17_result_86 : decode cX17_result 86 = .ok (.goto 127, 3) := by decide +kernel
theorem dr_cX17_result_89 : decode cX17_result 89 = .ok (.iload_n 2, 1) := by decide +kernel
theorem dr_cX17_result_90 : decode cX17_result 90 = .ok (.ifCond .ne 7, 3) := by decide +kernel
theorem dr_cX17_result_97 : decode cX17_result 97 = .ok (.iload_n 1, 1) := by decide +kernel
theorem dr_cX17_result_98 : decode cX17_result 98 = .ok (.iload_n 2, 1) := by decide +kernel
theorem dr_cX17_result_99 : decode cX17_result 99 = .ok (.idiv, 1) := by decide +kernel
theorem dr_cX17_result_100 : decode cX17_result 100 = .ok (.istore_n 3, 1) := by decide +kernel
theorem dr_cX17_result_101 : decode cX17_result 101 = .ok (.goto 112, 3) := by decide +kernel
theorem dr_cX17_result_93 : decode cX17_result 93 = .ok (.ldc2_w 267, 3) := by decide +kernel
theorem wr_11_107 : (Jvm.Cond.constantLong "SpillForgeModel" (267 : Nat) (4294967296 : Int64)) ∈ gw := gw_11 107 rfl rfl
theorem dr_cX17_result_96 : decode cX17_result 96 = .ok (.lreturn, 1) := by decide +kernel
theorem dr_cX17_result_104 : decode cX17_result 104 = .ok (.iload_n 2, 1) := by decide +kernel
theorem dr_cX17_result_105 : decode cX17_result 105 = .ok (.ifCond .ne 7, 3) := by decide +kernel
theorem dr_cX17_result_112 : decode cX17_result 112 = .ok (.iload_n 1, 1) := by decide +kernel
theorem dr_cX17_result_113 : decode cX17_result 113 = .ok (.iload_n 2, 1) := by decide +kernel
theorem dr_cX17_result_114 : decode cX17_result 114 = .ok (.irem, 1) := by decide +kernel
theorem dr_cX17_result_115 : decode cX17_result 115 = .ok (.istore_n 3, 1) := by decide +kernel
theorem dr_cX17_result_116 : decode cX17_result 116 = .ok (.goto 97, 3) := by decide +kernel
theorem dr_cX17_result_108 : decode cX17_result 108 = .ok (.ldc2_w 267, 3) := by decide +kernel
theorem dr_cX17_result_111 : decode cX17_result 111 = .ok (.lreturn, 1) := by decide +kernel
theorem dr_cX17_result_119 : decode cX17_result 119 = .ok (.iload_n 1, 1) := by decide +kernel
theorem dr_cX17_result_120 : decode cX17_result 120 = .ok (.iload_n 2, 1) := by decide +kernel
theorem dr_cX17_result_121 : decode cX17_result 121 = .ok (.iand, 1) := by decide +kernel
theorem dr_cX17_result_122 : decode cX17_result 122 = .ok (.istore_n 3, 1) := by decide +kernel
theorem dr_cX17_result_123 : decode cX17_result 123 = .ok (.goto 90, 3) := by decide +kernel
theorem dr_cX17_result_126 : decode cX17_result 126 = .ok (.iload_n 1, 1) := by decide +kernel
theorem dr_cX17_result_127 : decode cX17_result 127 = .ok (.iload_n 2, 1) := by decide +kernel
theorem dr_cX17_result_128 : decode cX17_result 128 = .ok (.ior, 1) := by decide +kernel
theorem dr_cX17_result_129 : decode cX17_result 129 = .ok (.istore_n 3, 1) := by decide +kernel
theorem dr_cX17_result_130 : decode cX17_result 130 = .ok (.goto 83, 3) := by decide +kernel
theorem dr_cX17_result_133 : decode cX17_result 133 = .ok (.iload_n 1, 1) := by decide +kernel
theorem dr_cX17_result_134 : decode cX17_result 134 = .ok (.iload_n 2, 1) := by decide +kernel
theorem dr_cX17_result_135 : decode cX17_result 135 = .ok (.ixor, 1) := by decide +kernel
theorem dr_cX17_result_136 : decode cX17_result 136 = .ok (.istore_n 3, 1) := by decide +kernel
theorem dr_cX17_result_137 : decode cX17_result 137 = .ok (.goto 76, 3) := by decide +kernel
theorem dr_cX17_result_140 : decode cX17_result 140 = .ok (.iload_n 1, 1) := by decide +kernel
theorem dr_cX17_result_141 : decode cX17_result 141 = .ok (.iload_n 2, 1) := by decide +kernel
theorem dr_cX17_result_142 : decode cX17_result 142 = .ok (.bipush 31, 2) := by decide +kernel
theorem dr_cX17_result_144 : decode cX17_result 144 = .ok (.iand, 1) := by decide +kernel
theorem dr_cX17_result_145 : decode cX17_result 145 = .ok (.ishl, 1) := by decide +kernel
theorem dr_cX17_result_146 : decode cX17_result 146 = .ok (.istore_n 3, 1) := by decide +kernel
theorem dr_cX17_result_147 : decode cX17_result 147 = .ok (.goto 66, 3) := by decide +kernel
theorem dr_cX17_result_150 : decode cX17_result 150 = .ok (.iload_n 1, 1) := by decide +kernel
theorem dr_cX17_result_151 : decode cX17_result 151 = .ok (.iload_n 2, 1) := by decide +kernel
theorem dr_cX17_result_152 : decode cX17_result 152 = .ok (.bipush 31, 2) := by decide +kernel
theorem dr_cX17_result_154 : decode cX17_result 154 = .ok (.iand, 1) := by decide +kernel
theorem dr_cX17_result_155 : decode cX17_result 155 = .ok (.ishr, 1) := by decide +kernel
theorem dr_cX17_result_156 : decode cX17_result 156 = .ok (.istore_n 3, 1) := by decide +kernel
theorem dr_cX17_result_157 : decode cX17_result 157 = .ok (.goto 56, 3) := by decide +kernel
theorem dr_cX17_result_160 : decode cX17_result 160 = .ok (.iload_n 1, 1) := by decide +kernel
theorem dr_cX17_result_161 : decode cX17_result 161 = .ok (.iload_n 2, 1) := by decide +kernel
theorem dr_cX17_result_162 : decode cX17_result 162 = .ok (.if_icmp .ge 7, 3) := by decide +kernel
theorem dr_cX17_result_169 : decode cX17_result 169 = .ok (.iconst 0, 1) := by decide +kernel
theorem dr_cX17_result_170 : decode cX17_result 170 = .ok (.istore_n 3, 1) := by decide +kernel
theorem dr_cX17_result_171 : decode cX17_result 171 = .ok (.goto 42, 3) := by decide +kernel
theorem dr_cX17_result_165 : decode cX17_result 165 = .ok (.iconst 1, 1) := by decide +kernel
theorem dr_cX17_result_166 : decode cX17_result 166 = .ok (.goto 4, 3) := by decide +kernel
theorem dr_cX17_result_174 : decode cX17_result 174 = .ok (.iload_n 1, 1) := by decide +kernel
theorem dr_cX17_result_175 : decode cX17_result 175 = .ok (.iload_n 2, 1) := by decide +kernel
theorem dr_cX17_result_176 : decode cX17_result 176 = .ok (.if_icmp .gt 7, 3) := by decide +kernel
theorem dr_cX17_result_183 : decode cX17_result 183 = .ok (.iconst 0, 1) := by decide +kernel
theorem dr_cX17_result_184 : decode cX17_result 184 = .ok (.istore_n 3, 1) := by decide +kernel
theorem dr_cX17_result_185 : decode cX17_result 185 = .ok (.goto 28, 3) := by decide +kernel
theorem dr_cX17_result_179 : decode cX17_result 179 = .ok (.iconst 1, 1) := by decide +kernel
theorem dr_cX17_result_180 : decode cX17_result 180 = .ok (.goto 4, 3) := by decide +kernel
theorem dr_cX17_result_188 : decode cX17_result 188 = .ok (.iload_n 1, 1) := by decide +kernel
theorem dr_cX17_result_189 : decode cX17_result 189 = .ok (.iload_n 2, 1) := by decide +kernel
theorem dr_cX17_result_190 : decode cX17_result 190 = .ok (.if_icmp .ne 7, 3) := by decide +kernel
theorem dr_cX17_result_197 : decode cX17_result 197 = .ok (.iconst 0, 1) := by decide +kernel
theorem dr_cX17_result_198 : decode cX17_result 198 = .ok (.istore_n 3, 1) := by decide +kernel
theorem dr_cX17_result_199 : decode cX17_result 199 = .ok (.goto 14, 3) := by decide +kernel
theorem dr_cX17_result_193 : decode cX17_result 193 = .ok (.iconst 1, 1) := by decide +kernel
theorem dr_cX17_result_194 : decode cX17_result 194 = .ok (.goto 4, 3) := by decide +kernel
theorem dr_cX17_result_202 : decode cX17_result 202 = .ok (.iload_n 1, 1) := by decide +kernel
theorem dr_cX17_result_203 : decode cX17_result 203 = .ok (.iload_n 2, 1) := by decide +kernel
theorem dr_cX17_result_204 : decode cX17_result 204 = .ok (.if_icmp .eq 7, 3) := by decide +kernel
theorem dr_cX17_result_211 : decode cX17_result 211 = .ok (.iconst 0, 1) := by decide +kernel
theorem dr_cX17_result_212 : decode cX17_result 212 = .ok (.istore_n 3, 1) := by decide +kernel
theorem dr_cX17_result_207 : decode cX17_result 207 = .ok (.iconst 1, 1) := by decide +kernel
theorem dr_cX17_result_208 : decode cX17_result 208 = .ok (.goto 4, 3) := by decide +kernel
theorem dr_cJ6_numberOfTrailingZeros_0f7a4_0 : decode cJ6_numberOfTrailingZeros_0f7a4 0 = .ok (.iload_n 0, 1) := by decide +kernel
theorem dr_cJ6_numberOfTrailingZeros_0f7a4_1 : decode cJ6_numberOfTrailingZeros_0f7a4 1 = .ok (.iconst (-1), 1) := by decide +kernel
theorem dr_cJ6_numberOfTrailingZeros_0f7a4_2 : decode cJ6_numberOfTrailingZeros_0f7a4 2 = .ok (.ixor, 1) := by decide +kernel
theorem dr_cJ6_numberOfTrailingZeros_0f7a4_3 : decode cJ6_numberOfTrailingZeros_0f7a4 3 = .ok (.iload_n 0, 1) := by decide +kernel
theorem dr_cJ6_numberOfTrailingZeros_0f7a4_4 : decode cJ6_numberOfTrailingZeros_0f7a4 4 = .ok (.iconst 1, 1) := by decide +kernel
theorem dr_cJ6_numberOfTrailingZeros_0f7a4_5 : decode cJ6_numberOfTrailingZeros_0f7a4 5 = .ok (.isub, 1) := by decide +kernel
theorem dr_cJ6_numberOfTrailingZeros_0f7a4_6 : decode cJ6_numberOfTrailingZeros_0f7a4 6 = .ok (.iand, 1) := by decide +kernel
theorem dr_cJ6_numberOfTrailingZeros_0f7a4_7 : decode cJ6_numberOfTrailingZeros_0f7a4 7 = .ok (.istore_n 0, 1) := by decide +kernel
theorem dr_cJ6_numberOfTrailingZeros_0f7a4_8 : decode cJ6_numberOfTrailingZeros_0f7a4 8 = .ok (.iload_n 0, 1) := by decide +kernel
theorem dr_cJ6_numberOfTrailingZeros_0f7a4_9 : decode cJ6_numberOfTrailingZeros_0f7a4 9 = .ok (.ifCond .gt 8, 3) := by decide +kernel
theorem dr_cJ6_numberOfTrailingZeros_0f7a4_17 : decode cJ6_numberOfTrailingZeros_0f7a4 17 = .ok (.iconst 1, 1) := by decide +kernel
theorem dr_cJ6_numberOfTrailingZeros_0f7a4_18 : decode cJ6_numberOfTrailingZeros_0f7a4 18 = .ok (.istore_n 1, 1) := by decide +kernel
theorem dr_cJ6_numberOfTrailingZeros_0f7a4_19 : decode cJ6_numberOfTrailingZeros_0f7a4 19 = .ok (.iload_n 0, 1) := by decide +kernel
theorem dr_cJ6_numberOfTrailingZeros_0f7a4_20 : decode cJ6_numberOfTrailingZeros_0f7a4 20 = .ok (.ldc_w 264, 3) := by decide +kernel
theorem wr_11_7 : (Jvm.Cond.constant "java/lang/Integer" (264 : Nat) (65536 : Int32)) ∈ gw := gw_11 7 rfl rfl
theorem dr_cJ6_numberOfTrailingZeros_0f7a4_23 : decode cJ6_numberOfTrailingZeros_0f7a4 23 = .ok (.if_icmp .le 11, 3) := by decide +kernel
theorem dr_cJ6_numberOfTrailingZeros_0f7a4_34 : decode cJ6_numberOfTrailingZeros_0f7a4 34 = .ok (.iload_n 0, 1) := by decide +kernel
theorem dr_cJ6_numberOfTrailingZeros_0f7a4_35 : decode cJ6_numberOfTrailingZeros_0f7a4 35 = .ok (.sipush 256, 3) := by decide +kernel
theorem dr_cJ6_numberOfTrailingZeros_0f7a4_38 : decode cJ6_numberOfTrailingZeros_0f7a4 38 = .ok (.if_icmp .le 11, 3) := by decide +kernel
theorem dr_cJ6_numberOfTrailingZeros_0f7a4_49 : decode cJ6_numberOfTrailingZeros_0f7a4 49 = .ok (.iload_n 0, 1) := by decide +kernel
theorem dr_cJ6_numberOfTrailingZeros_0f7a4_50 : decode cJ6_numberOfTrailingZeros_0f7a4 50 = .ok (.bipush 16, 2) := by decide +kernel
theorem dr_cJ6_numberOfTrailingZeros_0f7a4_52 : decode cJ6_numberOfTrailingZeros_0f7a4 52 = .ok (.if_icmp .le 10, 3) := by decide +kernel
theorem dr_cJ6_numberOfTrailingZeros_0f7a4_62 : decode cJ6_numberOfTrailingZeros_0f7a4 62 = .ok (.iload_n 0, 1) := by decide +kernel
theorem dr_cJ6_numberOfTrailingZeros_0f7a4_63 : decode cJ6_numberOfTrailingZeros_0f7a4 63 = .ok (.iconst 4, 1) := by decide +kernel
theorem dr_cJ6_numberOfTrailingZeros_0f7a4_64 : decode cJ6_numberOfTrailingZeros_0f7a4 64 = .ok (.if_icmp .le 10, 3) := by decide +kernel
theorem dr_cJ6_numberOfTrailingZeros_0f7a4_74 : decode cJ6_numberOfTrailingZeros_0f7a4 74 = .ok (.iload_n 1, 1) := by decide +kernel
theorem dr_cJ6_numberOfTrailingZeros_0f7a4_75 : decode cJ6_numberOfTrailingZeros_0f7a4 75 = .ok (.iload_n 0, 1) := by decide +kernel
theorem dr_cJ6_numberOfTrailingZeros_0f7a4_76 : decode cJ6_numberOfTrailingZeros_0f7a4 76 = .ok (.iconst 1, 1) := by decide +kernel
theorem dr_cJ6_numberOfTrailingZeros_0f7a4_77 : decode cJ6_numberOfTrailingZeros_0f7a4 77 = .ok (.iushr, 1) := by decide +kernel
theorem dr_cJ6_numberOfTrailingZeros_0f7a4_78 : decode cJ6_numberOfTrailingZeros_0f7a4 78 = .ok (.iadd, 1) := by decide +kernel
theorem dr_cJ6_numberOfTrailingZeros_0f7a4_79 : decode cJ6_numberOfTrailingZeros_0f7a4 79 = .ok (.ireturn, 1) := by decide +kernel
theorem dr_cJ6_numberOfTrailingZeros_0f7a4_67 : decode cJ6_numberOfTrailingZeros_0f7a4 67 = .ok (.iinc 1 2, 3) := by decide +kernel
theorem dr_cJ6_numberOfTrailingZeros_0f7a4_70 : decode cJ6_numberOfTrailingZeros_0f7a4 70 = .ok (.iload_n 0, 1) := by decide +kernel
theorem dr_cJ6_numberOfTrailingZeros_0f7a4_71 : decode cJ6_numberOfTrailingZeros_0f7a4 71 = .ok (.iconst 2, 1) := by decide +kernel
theorem dr_cJ6_numberOfTrailingZeros_0f7a4_72 : decode cJ6_numberOfTrailingZeros_0f7a4 72 = .ok (.iushr, 1) := by decide +kernel
theorem dr_cJ6_numberOfTrailingZeros_0f7a4_73 : decode cJ6_numberOfTrailingZeros_0f7a4 73 = .ok (.istore_n 0, 1) := by decide +kernel
theorem dr_cJ6_numberOfTrailingZeros_0f7a4_55 : decode cJ6_numberOfTrailingZeros_0f7a4 55 = .ok (.iinc 1 4, 3) := by decide +kernel
theorem dr_cJ6_numberOfTrailingZeros_0f7a4_58 : decode cJ6_numberOfTrailingZeros_0f7a4 58 = .ok (.iload_n 0, 1) := by decide +kernel
theorem dr_cJ6_numberOfTrailingZeros_0f7a4_59 : decode cJ6_numberOfTrailingZeros_0f7a4 59 = .ok (.iconst 4, 1) := by decide +kernel
theorem dr_cJ6_numberOfTrailingZeros_0f7a4_60 : decode cJ6_numberOfTrailingZeros_0f7a4 60 = .ok (.iushr, 1) := by decide +kernel
theorem dr_cJ6_numberOfTrailingZeros_0f7a4_61 : decode cJ6_numberOfTrailingZeros_0f7a4 61 = .ok (.istore_n 0, 1) := by decide +kernel
theorem dr_cJ6_numberOfTrailingZeros_0f7a4_41 : decode cJ6_numberOfTrailingZeros_0f7a4 41 = .ok (.iinc 1 8, 3) := by decide +kernel
theorem dr_cJ6_numberOfTrailingZeros_0f7a4_44 : decode cJ6_numberOfTrailingZeros_0f7a4 44 = .ok (.iload_n 0, 1) := by decide +kernel
theorem dr_cJ6_numberOfTrailingZeros_0f7a4_45 : decode cJ6_numberOfTrailingZeros_0f7a4 45 = .ok (.bipush 8, 2) := by decide +kernel
theorem dr_cJ6_numberOfTrailingZeros_0f7a4_47 : decode cJ6_numberOfTrailingZeros_0f7a4 47 = .ok (.iushr, 1) := by decide +kernel
theorem dr_cJ6_numberOfTrailingZeros_0f7a4_48 : decode cJ6_numberOfTrailingZeros_0f7a4 48 = .ok (.istore_n 0, 1) := by decide +kernel
theorem dr_cJ6_numberOfTrailingZeros_0f7a4_26 : decode cJ6_numberOfTrailingZeros_0f7a4 26 = .ok (.iinc 1 16, 3) := by decide +kernel
theorem dr_cJ6_numberOfTrailingZeros_0f7a4_29 : decode cJ6_numberOfTrailingZeros_0f7a4 29 = .ok (.iload_n 0, 1) := by decide +kernel
theorem dr_cJ6_numberOfTrailingZeros_0f7a4_30 : decode cJ6_numberOfTrailingZeros_0f7a4 30 = .ok (.bipush 16, 2) := by decide +kernel
theorem dr_cJ6_numberOfTrailingZeros_0f7a4_32 : decode cJ6_numberOfTrailingZeros_0f7a4 32 = .ok (.iushr, 1) := by decide +kernel
theorem dr_cJ6_numberOfTrailingZeros_0f7a4_33 : decode cJ6_numberOfTrailingZeros_0f7a4 33 = .ok (.istore_n 0, 1) := by decide +kernel
theorem dr_cJ6_numberOfTrailingZeros_0f7a4_12 : decode cJ6_numberOfTrailingZeros_0f7a4 12 = .ok (.iload_n 0, 1) := by decide +kernel
theorem dr_cJ6_numberOfTrailingZeros_0f7a4_13 : decode cJ6_numberOfTrailingZeros_0f7a4 13 = .ok (.bipush 32, 2) := by decide +kernel
theorem dr_cJ6_numberOfTrailingZeros_0f7a4_15 : decode cJ6_numberOfTrailingZeros_0f7a4 15 = .ok (.iand, 1) := by decide +kernel
theorem dr_cJ6_numberOfTrailingZeros_0f7a4_16 : decode cJ6_numberOfTrailingZeros_0f7a4 16 = .ok (.ireturn, 1) := by decide +kernel
abbrev ky_2035_SpillForgeModel_result : gKey := (cX17_result, 4, "SpillForgeModel", (some FieldType.long), [], "result", fun _ _ => True)
def pp_2035_SpillForgeModel_result (D : va_G) (I : FieldType → ClassId) (P2030 : List Nat) (F2031 : Nat → va_E) (p2032 : Int32) (p2033 : Int32) (p2034 : Int32) : Option Value → va_W → Nat → Nat → Prop := fun r w dc ds => ∃ (ol2115 : Int64), r = some (.long ol2115) ∧ w = va_pl P2030 F2031 ∧ dc ≤ 0 ∧ ds ≤ 0 ∧ tr_RModel_result p2032 p2033 p2034 ol2115
set_option maxRecDepth 100000 in
set_option maxHeartbeats 4000000 in
theorem cp_2035_SpillForgeModel_result (l : Launch) (hl0 : l.stackTraces = false) (D : va_G) (I : FieldType → ClassId) (P2030 : List Nat) (F2031 : Nat → va_E) (p2032 : Int32) (p2033 : Int32) (p2034 : Int32)  : CtA (gV D I) l yX17_result cX17_result 4 (some FieldType.long) 0 0 0 0 [.int p2032, .int p2033, .int p2034] (va_pl P2030 F2031) (pp_2035_SpillForgeModel_result D I P2030 F2031 p2032 p2033 p2034) gNA := by
  refine CtA_of hl0 (by decide) (Nat.le_of_ble_eq_true rfl) ?_
  have bp2032 := gB_any p2032
  have bp2033 := gB_any p2033
  have bp2034 := gB_any p2034
  refine G_iload_n 0 dr_cX17_result_0 rfl ?_
  by_cases hs2036 : p2032 = 1
  · have ehs2036 : p2032.toInt = 1 := gj_eq hs2036 (show Int32.toInt 1 = 1 by decide)
    have bp2032' : gB p2032 1 1 := ⟨by omega, by omega⟩
    refine G_eqi (y := 1) hs2036 ?_
    refine G_tableIn 68 dr_cX17_result_1 (by decide) (by decide) (by first | rfl | decide) (by decide) ?_
    refine G_iload_n 1 dr_cX17_result_68 rfl ?_
    refine G_iload_n 2 dr_cX17_result_69 rfl ?_
    refine G_iadd dr_cX17_result_70 (G_nam fun z2037 hz2037 => ?_)
    have bz2037 : gB z2037 (-2147483648) 2147483647 := gB_any z2037
    refine G_istore_n (L' := [(3, .int z2037), (0, .int p2032), (1, .int p2033), (2, .int p2034)]) dr_cX17_result_71 (Nat.le_of_ble_eq_true rfl) rfl ?_
    refine G_goto 213 dr_cX17_result_72 (by decide +kernel) ?_
    refine G_iload_n 0 dr_cX17_result_213 rfl ?_
    refine G_i2l dr_cX17_result_214 (G_namL fun u2038 hu2038 => ?_)
    refine G_ldc2 4294967295 dr_cX17_result_215 wr_11_108 ?_
    refine G_land dr_cX17_result_218 (G_namL fun u2039 hu2039 => ?_)
    exact G_lretA dr_cX17_result_219 rfl (Nat.le_of_ble_eq_true rfl) (Nat.le_of_ble_eq_true rfl) ⟨u2039, rfl, rfl, (Nat.le_of_ble_eq_true rfl), (Nat.le_of_ble_eq_true rfl), (fun R c1 c2 c3 c4 c5 c6 c7 c8 c9 c10 c11 c12 c13 c14 c15 c16 c17 c18 c19 c20 => c1 z2037 u2038 u2039 ehs2036 hz2037 hu2038 hu2039)⟩
  by_cases hs2040 : p2032 = 2
  · have ehs2040 : p2032.toInt = 2 := gj_eq hs2040 (show Int32.toInt 2 = 2 by decide)
    have bp2032' : gB p2032 2 2 := ⟨by omega, by omega⟩
    refine G_eqi (y := 2) hs2040 ?_
    refine G_tableIn 75 dr_cX17_result_1 (by decide) (by decide) (by first | rfl | decide) (by decide) ?_
    refine G_iload_n 1 dr_cX17_result_75 rfl ?_
    refine G_iload_n 2 dr_cX17_result_76 rfl ?_
    refine G_isub dr_cX17_result_77 (G_nam fun z2041 hz2041 => ?_)
    have bz2041 : gB z2041 (-2147483648) 2147483647 := gB_any z2041
    refine G_istore_n (L' := [(3, .int z2041), (0, .int p2032), (1, .int p2033), (2, .int p2034)]) dr_cX17_result_78 (Nat.le_of_ble_eq_true rfl) rfl ?_
    refine G_goto 213 dr_cX17_result_79 (by decide +kernel) ?_
    refine G_iload_n 0 dr_cX17_result_213 rfl ?_
    refine G_i2l dr_cX17_result_214 (G_namL fun u2042 hu2042 => ?_)
    refine G_ldc2 4294967295 dr_cX17_result_215 wr_11_108 ?_
    refine G_land dr_cX17_result_218 (G_namL fun u2043 hu2043 => ?_)
    exact G_lretA dr_cX17_result_219 rfl (Nat.le_of_ble_eq_true rfl) (Nat.le_of_ble_eq_true rfl) ⟨u2043, rfl, rfl, (Nat.le_of_ble_eq_true rfl), (Nat.le_of_ble_eq_true rfl), (fun R c1 c2 c3 c4 c5 c6 c7 c8 c9 c10 c11 c12 c13 c14 c15 c16 c17 c18 c19 c20 => c2 z2041 u2042 u2043 ehs2040 hz2041 hu2042 hu2043)⟩
  by_cases hs2044 : p2032 = 3
  · have ehs2044 : p2032.toInt = 3 := gj_eq hs2044 (show Int32.toInt 3 = 3 by decide)
    have bp2032' : gB p2032 3 3 := ⟨by omega, by omega⟩
    refine G_eqi (y := 3) hs2044 ?_
    refine G_tableIn 82 dr_cX17_result_1 (by decide) (by decide) (by first | rfl | decide) (by decide) ?_
    refine G_iload_n 1 dr_cX17_result_82 rfl ?_
    refine G_iload_n 2 dr_cX17_result_83 rfl ?_
    refine G_imul dr_cX17_result_84 (G_nam fun z2045 hz2045 => ?_)
    have bz2045 : gB z2045 (-2147483648) 2147483647 := gB_any z2045
    refine G_istore_n (L' := [(3, .int z2045), (0, .int p2032), (1, .int p2033), (2, .int p2034)]) dr_cX17_result_85 (Nat.le_of_ble_eq_true rfl) rfl ?_
    refine G_goto 213 dr_cX17_result_86 (by decide +kernel) ?_
    refine G_iload_n 0 dr_cX17_result_213 rfl ?_
    refine G_i2l dr_cX17_result_214 (G_namL fun u2046 hu2046 => ?_)
    refine G_ldc2 4294967295 dr_cX17_result_215 wr_11_108 ?_
    refine G_land dr_cX17_result_218 (G_namL fun u2047 hu2047 => ?_)
    exact G_lretA dr_cX17_result_219 rfl (Nat.le_of_ble_eq_true rfl) (Nat.le_of_ble_eq_true rfl) ⟨u2047, rfl, rfl, (Nat.le_of_ble_eq_true rfl), (Nat.le_of_ble_eq_true rfl), (fun R c1 c2 c3 c4 c5 c6 c7 c8 c9 c10 c11 c12 c13 c14 c15 c16 c17 c18 c19 c20 => c3 z2045 u2046 u2047 ehs2044 hz2045 hu2046 hu2047)⟩
  by_cases hs2048 : p2032 = 4
  · have ehs2048 : p2032.toInt = 4 := gj_eq hs2048 (show Int32.toInt 4 = 4 by decide)
    have bp2032' : gB p2032 4 4 := ⟨by omega, by omega⟩
    refine G_eqi (y := 4) hs2048 ?_
    refine G_tableIn 89 dr_cX17_result_1 (by decide) (by decide) (by first | rfl | decide) (by decide) ?_
    refine G_iload_n 2 dr_cX17_result_89 rfl ?_
    refine G_if_ne 97 dr_cX17_result_90 (by decide +kernel) (fun hc2049 => ?_) (fun hc2049 => ?_)
    · have r2050 : p2034.toInt ≠ 0 := gj_neq hc2049 (show Int32.toInt 0 = 0 by decide)
      refine G_iload_n 1 dr_cX17_result_97 rfl ?_
      refine G_iload_n 2 dr_cX17_result_98 rfl ?_
      refine G_idiv dr_cX17_result_99 hc2049 (G_nam fun z2051 hz2051 => ?_)
      have bz2051 : gB z2051 (-2147483648) 2147483647 := gB_any z2051
      refine G_istore_n (L' := [(3, .int z2051), (0, .int p2032), (1, .int p2033), (2, .int p2034)]) dr_cX17_result_100 (Nat.le_of_ble_eq_true rfl) rfl ?_
      refine G_goto 213 dr_cX17_result_101 (by decide +kernel) ?_
      refine G_iload_n 0 dr_cX17_result_213 rfl ?_
      refine G_i2l dr_cX17_result_214 (G_namL fun u2052 hu2052 => ?_)
      refine G_ldc2 4294967295 dr_cX17_result_215 wr_11_108 ?_
      refine G_land dr_cX17_result_218 (G_namL fun u2053 hu2053 => ?_)
      exact G_lretA dr_cX17_result_219 rfl (Nat.le_of_ble_eq_true rfl) (Nat.le_of_ble_eq_true rfl) ⟨u2053, rfl, rfl, (Nat.le_of_ble_eq_true rfl), (Nat.le_of_ble_eq_true rfl), (fun R c1 c2 c3 c4 c5 c6 c7 c8 c9 c10 c11 c12 c13 c14 c15 c16 c17 c18 c19 c20 => c4 z2051 u2052 u2053 ehs2048 r2050 hz2051 hu2052 hu2053)⟩
    · have r2054 : p2034.toInt = 0 := gj_eq hc2049 (show Int32.toInt 0 = 0 by decide)
      have bp2034' : gB p2034 0 0 := ⟨by omega, by omega⟩
      refine G_ldc2 4294967296 dr_cX17_result_93 wr_11_107 ?_
      exact G_lretA dr_cX17_result_96 rfl (Nat.le_of_ble_eq_true rfl) (Nat.le_of_ble_eq_true rfl) ⟨4294967296, rfl, rfl, (Nat.le_of_ble_eq_true rfl), (Nat.le_of_ble_eq_true rfl), (fun R c1 c2 c3 c4 c5 c6 c7 c8 c9 c10 c11 c12 c13 c14 c15 c16 c17 c18 c19 c20 => c5 ehs2048 r2054)⟩
  by_cases hs2055 : p2032 = 5
  · have ehs2055 : p2032.toInt = 5 := gj_eq hs2055 (show Int32.toInt 5 = 5 by decide)
    have bp2032' : gB p2032 5 5 := ⟨by omega, by omega⟩
    refine G_eqi (y := 5) hs2055 ?_
    refine G_tableIn 104 dr_cX17_result_1 (by decide) (by decide) (by first | rfl | decide) (by decide) ?_
    refine G_iload_n 2 dr_cX17_result_104 rfl ?_
    refine G_if_ne 112 dr_cX17_result_105 (by decide +kernel) (fun hc2056 => ?_) (fun hc2056 => ?_)
    · have r2057 : p2034.toInt ≠ 0 := gj_neq hc2056 (show Int32.toInt 0 = 0 by decide)
      refine G_iload_n 1 dr_cX17_result_112 rfl ?_
      refine G_iload_n 2 dr_cX17_result_113 rfl ?_
      refine G_irem dr_cX17_result_114 hc2056 (G_nam fun z2058 hz2058 => ?_)
      have bz2058 : gB z2058 (-2147483648) 2147483647 := gB_any z2058
      refine G_istore_n (L' := [(3, .int z2058), (0, .int p2032), (1, .int p2033), (2, .int p2034)]) dr_cX17_result_115 (Nat.le_of_ble_eq_true rfl) rfl ?_
      refine G_goto 213 dr_cX17_result_116 (by decide +kernel) ?_
      refine G_iload_n 0 dr_cX17_result_213 rfl ?_
      refine G_i2l dr_cX17_result_214 (G_namL fun u2059 hu2059 => ?_)
      refine G_ldc2 4294967295 dr_cX17_result_215 wr_11_108 ?_
      refine G_land dr_cX17_result_218 (G_namL fun u2060 hu2060 => ?_)
      exact G_lretA dr_cX17_result_219 rfl (Nat.le_of_ble_eq_true rfl) (Nat.le_of_ble_eq_true rfl) ⟨u2060, rfl, rfl, (Nat.le_of_ble_eq_true rfl), (Nat.le_of_ble_eq_true rfl), (fun R c1 c2 c3 c4 c5 c6 c7 c8 c9 c10 c11 c12 c13 c14 c15 c16 c17 c18 c19 c20 => c6 z2058 u2059 u2060 ehs2055 r2057 hz2058 hu2059 hu2060)⟩
    · have r2061 : p2034.toInt = 0 := gj_eq hc2056 (show Int32.toInt 0 = 0 by decide)
      have bp2034' : gB p2034 0 0 := ⟨by omega, by omega⟩
      refine G_ldc2 4294967296 dr_cX17_result_108 wr_11_107 ?_
      exact G_lretA dr_cX17_result_111 rfl (Nat.le_of_ble_eq_true rfl) (Nat.le_of_ble_eq_true rfl) ⟨4294967296, rfl, rfl, (Nat.le_of_ble_eq_true rfl), (Nat.le_of_ble_eq_true rfl), (fun R c1 c2 c3 c4 c5 c6 c7 c8 c9 c10 c11 c12 c13 c14 c15 c16 c17 c18 c19 c20 => c7 ehs2055 r2061)⟩
  by_cases hs2062 : p2032 = 6
  · have ehs2062 : p2032.toInt = 6 := gj_eq hs2062 (show Int32.toInt 6 = 6 by decide)
    have bp2032' : gB p2032 6 6 := ⟨by omega, by omega⟩
    refine G_eqi (y := 6) hs2062 ?_
    refine G_tableIn 119 dr_cX17_result_1 (by decide) (by decide) (by first | rfl | decide) (by decide) ?_
    refine G_iload_n 1 dr_cX17_result_119 rfl ?_
    refine G_iload_n 2 dr_cX17_result_120 rfl ?_
    refine G_iand dr_cX17_result_121 (G_nam fun z2063 hz2063 => ?_)
    have bz2063 : gB z2063 (-2147483648) 2147483647 := gB_any z2063
    refine G_istore_n (L' := [(3, .int z2063), (0, .int p2032), (1, .int p2033), (2, .int p2034)]) dr_cX17_result_122 (Nat.le_of_ble_eq_true rfl) rfl ?_
    refine G_goto 213 dr_cX17_result_123 (by decide +kernel) ?_
    refine G_iload_n 0 dr_cX17_result_213 rfl ?_
    refine G_i2l dr_cX17_result_214 (G_namL fun u2064 hu2064 => ?_)
    refine G_ldc2 4294967295 dr_cX17_result_215 wr_11_108 ?_
    refine G_land dr_cX17_result_218 (G_namL fun u2065 hu2065 => ?_)
    exact G_lretA dr_cX17_result_219 rfl (Nat.le_of_ble_eq_true rfl) (Nat.le_of_ble_eq_true rfl) ⟨u2065, rfl, rfl, (Nat.le_of_ble_eq_true rfl), (Nat.le_of_ble_eq_true rfl), (fun R c1 c2 c3 c4 c5 c6 c7 c8 c9 c10 c11 c12 c13 c14 c15 c16 c17 c18 c19 c20 => c8 z2063 u2064 u2065 ehs2062 hz2063 hu2064 hu2065)⟩
  by_cases hs2066 : p2032 = 7
  · have ehs2066 : p2032.toInt = 7 := gj_eq hs2066 (show Int32.toInt 7 = 7 by decide)
    have bp2032' : gB p2032 7 7 := ⟨by omega, by omega⟩
    refine G_eqi (y := 7) hs2066 ?_
    refine G_tableIn 126 dr_cX17_result_1 (by decide) (by decide) (by first | rfl | decide) (by decide) ?_
    refine G_iload_n 1 dr_cX17_result_126 rfl ?_
    refine G_iload_n 2 dr_cX17_result_127 rfl ?_
    refine G_ior dr_cX17_result_128 (G_nam fun z2067 hz2067 => ?_)
    have bz2067 : gB z2067 (-2147483648) 2147483647 := gB_any z2067
    refine G_istore_n (L' := [(3, .int z2067), (0, .int p2032), (1, .int p2033), (2, .int p2034)]) dr_cX17_result_129 (Nat.le_of_ble_eq_true rfl) rfl ?_
    refine G_goto 213 dr_cX17_result_130 (by decide +kernel) ?_
    refine G_iload_n 0 dr_cX17_result_213 rfl ?_
    refine G_i2l dr_cX17_result_214 (G_namL fun u2068 hu2068 => ?_)
    refine G_ldc2 4294967295 dr_cX17_result_215 wr_11_108 ?_
    refine G_land dr_cX17_result_218 (G_namL fun u2069 hu2069 => ?_)
    exact G_lretA dr_cX17_result_219 rfl (Nat.le_of_ble_eq_true rfl) (Nat.le_of_ble_eq_true rfl) ⟨u2069, rfl, rfl, (Nat.le_of_ble_eq_true rfl), (Nat.le_of_ble_eq_true rfl), (fun R c1 c2 c3 c4 c5 c6 c7 c8 c9 c10 c11 c12 c13 c14 c15 c16 c17 c18 c19 c20 => c9 z2067 u2068 u2069 ehs2066 hz2067 hu2068 hu2069)⟩
  by_cases hs2070 : p2032 = 8
  · have ehs2070 : p2032.toInt = 8 := gj_eq hs2070 (show Int32.toInt 8 = 8 by decide)
    have bp2032' : gB p2032 8 8 := ⟨by omega, by omega⟩
    refine G_eqi (y := 8) hs2070 ?_
    refine G_tableIn 133 dr_cX17_result_1 (by decide) (by decide) (by first | rfl | decide) (by decide) ?_
    refine G_iload_n 1 dr_cX17_result_133 rfl ?_
    refine G_iload_n 2 dr_cX17_result_134 rfl ?_
    refine G_ixor dr_cX17_result_135 (G_nam fun z2071 hz2071 => ?_)
    have bz2071 : gB z2071 (-2147483648) 2147483647 := gB_any z2071
    refine G_istore_n (L' := [(3, .int z2071), (0, .int p2032), (1, .int p2033), (2, .int p2034)]) dr_cX17_result_136 (Nat.le_of_ble_eq_true rfl) rfl ?_
    refine G_goto 213 dr_cX17_result_137 (by decide +kernel) ?_
    refine G_iload_n 0 dr_cX17_result_213 rfl ?_
    refine G_i2l dr_cX17_result_214 (G_namL fun u2072 hu2072 => ?_)
    refine G_ldc2 4294967295 dr_cX17_result_215 wr_11_108 ?_
    refine G_land dr_cX17_result_218 (G_namL fun u2073 hu2073 => ?_)
    exact G_lretA dr_cX17_result_219 rfl (Nat.le_of_ble_eq_true rfl) (Nat.le_of_ble_eq_true rfl) ⟨u2073, rfl, rfl, (Nat.le_of_ble_eq_true rfl), (Nat.le_of_ble_eq_true rfl), (fun R c1 c2 c3 c4 c5 c6 c7 c8 c9 c10 c11 c12 c13 c14 c15 c16 c17 c18 c19 c20 => c10 z2071 u2072 u2073 ehs2070 hz2071 hu2072 hu2073)⟩
  by_cases hs2074 : p2032 = 9
  · have ehs2074 : p2032.toInt = 9 := gj_eq hs2074 (show Int32.toInt 9 = 9 by decide)
    have bp2032' : gB p2032 9 9 := ⟨by omega, by omega⟩
    refine G_eqi (y := 9) hs2074 ?_
    refine G_tableIn 140 dr_cX17_result_1 (by decide) (by decide) (by first | rfl | decide) (by decide) ?_
    refine G_iload_n 1 dr_cX17_result_140 rfl ?_
    refine G_iload_n 2 dr_cX17_result_141 rfl ?_
    refine G_bipush 31 dr_cX17_result_142 (by decide +kernel) ?_
    refine G_iand dr_cX17_result_144 (G_nam fun z2075 hz2075 => ?_)
    have bz2075 : gB z2075 0 31 := gB_and hz2075 (gBl (show Int32.toInt 31 = 31 by decide)) (by decide)
    refine G_ishl dr_cX17_result_145 (G_nam fun z2076 hz2076 => ?_)
    have bz2076 : gB z2076 (-2147483648) 2147483647 := gB_any z2076
    refine G_istore_n (L' := [(3, .int z2076), (0, .int p2032), (1, .int p2033), (2, .int p2034)]) dr_cX17_result_146 (Nat.le_of_ble_eq_true rfl) rfl ?_
    refine G_goto 213 dr_cX17_result_147 (by decide +kernel) ?_
    refine G_iload_n 0 dr_cX17_result_213 rfl ?_
    refine G_i2l dr_cX17_result_214 (G_namL fun u2077 hu2077 => ?_)
    refine G_ldc2 4294967295 dr_cX17_result_215 wr_11_108 ?_
    refine G_land dr_cX17_result_218 (G_namL fun u2078 hu2078 => ?_)
    exact G_lretA dr_cX17_result_219 rfl (Nat.le_of_ble_eq_true rfl) (Nat.le_of_ble_eq_true rfl) ⟨u2078, rfl, rfl, (Nat.le_of_ble_eq_true rfl), (Nat.le_of_ble_eq_true rfl), (fun R c1 c2 c3 c4 c5 c6 c7 c8 c9 c10 c11 c12 c13 c14 c15 c16 c17 c18 c19 c20 => c11 z2075 z2076 u2077 u2078 ehs2074 hz2075 hz2076 hu2077 hu2078)⟩
  by_cases hs2079 : p2032 = 10
  · have ehs2079 : p2032.toInt = 10 := gj_eq hs2079 (show Int32.toInt 10 = 10 by decide)
    have bp2032' : gB p2032 10 10 := ⟨by omega, by omega⟩
    refine G_eqi (y := 10) hs2079 ?_
    refine G_tableIn 150 dr_cX17_result_1 (by decide) (by decide) (by first | rfl | decide) (by decide) ?_
    refine G_iload_n 1 dr_cX17_result_150 rfl ?_
    refine G_iload_n 2 dr_cX17_result_151 rfl ?_
    refine G_bipush 31 dr_cX17_result_152 (by decide +kernel) ?_
    refine G_iand dr_cX17_result_154 (G_nam fun z2080 hz2080 => ?_)
    have bz2080 : gB z2080 0 31 := gB_and hz2080 (gBl (show Int32.toInt 31 = 31 by decide)) (by decide)
    refine G_ishr dr_cX17_result_155 (G_nam fun z2081 hz2081 => ?_)
    have bz2081 : gB z2081 (-2147483648) 2147483647 := gB_any z2081
    refine G_istore_n (L' := [(3, .int z2081), (0, .int p2032), (1, .int p2033), (2, .int p2034)]) dr_cX17_result_156 (Nat.le_of_ble_eq_true rfl) rfl ?_
    refine G_goto 213 dr_cX17_result_157 (by decide +kernel) ?_
    refine G_iload_n 0 dr_cX17_result_213 rfl ?_
    refine G_i2l dr_cX17_result_214 (G_namL fun u2082 hu2082 => ?_)
    refine G_ldc2 4294967295 dr_cX17_result_215 wr_11_108 ?_
    refine G_land dr_cX17_result_218 (G_namL fun u2083 hu2083 => ?_)
    exact G_lretA dr_cX17_result_219 rfl (Nat.le_of_ble_eq_true rfl) (Nat.le_of_ble_eq_true rfl) ⟨u2083, rfl, rfl, (Nat.le_of_ble_eq_true rfl), (Nat.le_of_ble_eq_true rfl), (fun R c1 c2 c3 c4 c5 c6 c7 c8 c9 c10 c11 c12 c13 c14 c15 c16 c17 c18 c19 c20 => c12 z2080 z2081 u2082 u2083 ehs2079 hz2080 hz2081 hu2082 hu2083)⟩
  by_cases hs2084 : p2032 = 11
  · have ehs2084 : p2032.toInt = 11 := gj_eq hs2084 (show Int32.toInt 11 = 11 by decide)
    have bp2032' : gB p2032 11 11 := ⟨by omega, by omega⟩
    refine G_eqi (y := 11) hs2084 ?_
    refine G_tableIn 160 dr_cX17_result_1 (by decide) (by decide) (by first | rfl | decide) (by decide) ?_
    refine G_iload_n 1 dr_cX17_result_160 rfl ?_
    refine G_iload_n 2 dr_cX17_result_161 rfl ?_
    refine G_icmp_ge 169 dr_cX17_result_162 (by decide +kernel) (fun hc2085 => ?_) (fun hc2085 => ?_)
    · have r2086 : p2034.toInt ≤ p2033.toInt := gC_le hc2085
      refine G_iconst 0 dr_cX17_result_169 (by decide +kernel) ?_
      refine G_istore_n (L' := [(3, .int 0), (0, .int p2032), (1, .int p2033), (2, .int p2034)]) dr_cX17_result_170 (Nat.le_of_ble_eq_true rfl) rfl ?_
      refine G_goto 213 dr_cX17_result_171 (by decide +kernel) ?_
      refine G_iload_n 0 dr_cX17_result_213 rfl ?_
      refine G_i2l dr_cX17_result_214 (G_namL fun u2087 hu2087 => ?_)
      refine G_ldc2 4294967295 dr_cX17_result_215 wr_11_108 ?_
      refine G_land dr_cX17_result_218 (G_namL fun u2088 hu2088 => ?_)
      exact G_lretA dr_cX17_result_219 rfl (Nat.le_of_ble_eq_true rfl) (Nat.le_of_ble_eq_true rfl) ⟨u2088, rfl, rfl, (Nat.le_of_ble_eq_true rfl), (Nat.le_of_ble_eq_true rfl), (fun R c1 c2 c3 c4 c5 c6 c7 c8 c9 c10 c11 c12 c13 c14 c15 c16 c17 c18 c19 c20 => c13 u2087 u2088 ehs2084 r2086 hu2087 hu2088)⟩
    · have r2089 : p2033.toInt < p2034.toInt := gC_nle hc2085
      have bp2033' : gB p2033 (-2147483648) 2147483646 := ⟨by omega, by omega⟩
      have bp2034' : gB p2034 (-2147483647) 2147483647 := ⟨by omega, by omega⟩
      refine G_iconst 1 dr_cX17_result_165 (by decide +kernel) ?_
      refine G_goto 170 dr_cX17_result_166 (by decide +kernel) ?_
      refine G_istore_n (L' := [(3, .int 1), (0, .int p2032), (1, .int p2033), (2, .int p2034)]) dr_cX17_result_170 (Nat.le_of_ble_eq_true rfl) rfl ?_
      refine G_goto 213 dr_cX17_result_171 (by decide +kernel) ?_
      refine G_iload_n 0 dr_cX17_result_213 rfl ?_
      refine G_i2l dr_cX17_result_214 (G_namL fun u2090 hu2090 => ?_)
      refine G_ldc2 4294967295 dr_cX17_result_215 wr_11_108 ?_
      refine G_land dr_cX17_result_218 (G_namL fun u2091 hu2091 => ?_)
      exact G_lretA dr_cX17_result_219 rfl (Nat.le_of_ble_eq_true rfl) (Nat.le_of_ble_eq_true rfl) ⟨u2091, rfl, rfl, (Nat.le_of_ble_eq_true rfl), (Nat.le_of_ble_eq_true rfl), (fun R c1 c2 c3 c4 c5 c6 c7 c8 c9 c10 c11 c12 c13 c14 c15 c16 c17 c18 c19 c20 => c14 u2090 u2091 ehs2084 r2089 hu2090 hu2091)⟩
  by_cases hs2092 : p2032 = 12
  · have ehs2092 : p2032.toInt = 12 := gj_eq hs2092 (show Int32.toInt 12 = 12 by decide)
    have bp2032' : gB p2032 12 12 := ⟨by omega, by omega⟩
    refine G_eqi (y := 12) hs2092 ?_
    refine G_tableIn 174 dr_cX17_result_1 (by decide) (by decide) (by first | rfl | decide) (by decide) ?_
    refine G_iload_n 1 dr_cX17_result_174 rfl ?_
    refine G_iload_n 2 dr_cX17_result_175 rfl ?_
    refine G_icmp_gt 183 dr_cX17_result_176 (by decide +kernel) (fun hc2093 => ?_) (fun hc2093 => ?_)
    · have r2094 : p2034.toInt < p2033.toInt := gC_lt hc2093
      have bp2034' : gB p2034 (-2147483648) 2147483646 := ⟨by omega, by omega⟩
      have bp2033' : gB p2033 (-2147483647) 2147483647 := ⟨by omega, by omega⟩
      refine G_iconst 0 dr_cX17_result_183 (by decide +kernel) ?_
      refine G_istore_n (L' := [(3, .int 0), (0, .int p2032), (1, .int p2033), (2, .int p2034)]) dr_cX17_result_184 (Nat.le_of_ble_eq_true rfl) rfl ?_
      refine G_goto 213 dr_cX17_result_185 (by decide +kernel) ?_
      refine G_iload_n 0 dr_cX17_result_213 rfl ?_
      refine G_i2l dr_cX17_result_214 (G_namL fun u2095 hu2095 => ?_)
      refine G_ldc2 4294967295 dr_cX17_result_215 wr_11_108 ?_
      refine G_land dr_cX17_result_218 (G_namL fun u2096 hu2096 => ?_)
      exact G_lretA dr_cX17_result_219 rfl (Nat.le_of_ble_eq_true rfl) (Nat.le_of_ble_eq_true rfl) ⟨u2096, rfl, rfl, (Nat.le_of_ble_eq_true rfl), (Nat.le_of_ble_eq_true rfl), (fun R c1 c2 c3 c4 c5 c6 c7 c8 c9 c10 c11 c12 c13 c14 c15 c16 c17 c18 c19 c20 => c15 u2095 u2096 ehs2092 r2094 hu2095 hu2096)⟩
    · have r2097 : p2033.toInt ≤ p2034.toInt := gC_nlt hc2093
      refine G_iconst 1 dr_cX17_result_179 (by decide +kernel) ?_
      refine G_goto 184 dr_cX17_result_180 (by decide +kernel) ?_
      refine G_istore_n (L' := [(3, .int 1), (0, .int p2032), (1, .int p2033), (2, .int p2034)]) dr_cX17_result_184 (Nat.le_of_ble_eq_true rfl) rfl ?_
      refine G_goto 213 dr_cX17_result_185 (by decide +kernel) ?_
      refine G_iload_n 0 dr_cX17_result_213 rfl ?_
      refine G_i2l dr_cX17_result_214 (G_namL fun u2098 hu2098 => ?_)
      refine G_ldc2 4294967295 dr_cX17_result_215 wr_11_108 ?_
      refine G_land dr_cX17_result_218 (G_namL fun u2099 hu2099 => ?_)
      exact G_lretA dr_cX17_result_219 rfl (Nat.le_of_ble_eq_true rfl) (Nat.le_of_ble_eq_true rfl) ⟨u2099, rfl, rfl, (Nat.le_of_ble_eq_true rfl), (Nat.le_of_ble_eq_true rfl), (fun R c1 c2 c3 c4 c5 c6 c7 c8 c9 c10 c11 c12 c13 c14 c15 c16 c17 c18 c19 c20 => c16 u2098 u2099 ehs2092 r2097 hu2098 hu2099)⟩
  by_cases hs2100 : p2032 = 13
  · have ehs2100 : p2032.toInt = 13 := gj_eq hs2100 (show Int32.toInt 13 = 13 by decide)
    have bp2032' : gB p2032 13 13 := ⟨by omega, by omega⟩
    refine G_eqi (y := 13) hs2100 ?_
    refine G_tableIn 188 dr_cX17_result_1 (by decide) (by decide) (by first | rfl | decide) (by decide) ?_
    refine G_iload_n 1 dr_cX17_result_188 rfl ?_
    refine G_iload_n 2 dr_cX17_result_189 rfl ?_
    refine G_icmp_ne 197 dr_cX17_result_190 (by decide +kernel) (fun hc2101 => ?_) (fun hc2101 => ?_)
    · have r2102 : p2033.toInt ≠ p2034.toInt := gC_ne hc2101
      refine G_iconst 0 dr_cX17_result_197 (by decide +kernel) ?_
      refine G_istore_n (L' := [(3, .int 0), (0, .int p2032), (1, .int p2033), (2, .int p2034)]) dr_cX17_result_198 (Nat.le_of_ble_eq_true rfl) rfl ?_
      refine G_goto 213 dr_cX17_result_199 (by decide +kernel) ?_
      refine G_iload_n 0 dr_cX17_result_213 rfl ?_
      refine G_i2l dr_cX17_result_214 (G_namL fun u2103 hu2103 => ?_)
      refine G_ldc2 4294967295 dr_cX17_result_215 wr_11_108 ?_
      refine G_land dr_cX17_result_218 (G_namL fun u2104 hu2104 => ?_)
      exact G_lretA dr_cX17_result_219 rfl (Nat.le_of_ble_eq_true rfl) (Nat.le_of_ble_eq_true rfl) ⟨u2104, rfl, rfl, (Nat.le_of_ble_eq_true rfl), (Nat.le_of_ble_eq_true rfl), (fun R c1 c2 c3 c4 c5 c6 c7 c8 c9 c10 c11 c12 c13 c14 c15 c16 c17 c18 c19 c20 => c17 u2103 u2104 ehs2100 r2102 hu2103 hu2104)⟩
    · have r2105 : p2033.toInt = p2034.toInt := gC_eq hc2101
      refine G_iconst 1 dr_cX17_result_193 (by decide +kernel) ?_
      refine G_goto 198 dr_cX17_result_194 (by decide +kernel) ?_
      refine G_istore_n (L' := [(3, .int 1), (0, .int p2032), (1, .int p2033), (2, .int p2034)]) dr_cX17_result_198 (Nat.le_of_ble_eq_true rfl) rfl ?_
      refine G_goto 213 dr_cX17_result_199 (by decide +kernel) ?_
      refine G_iload_n 0 dr_cX17_result_213 rfl ?_
      refine G_i2l dr_cX17_result_214 (G_namL fun u2106 hu2106 => ?_)
      refine G_ldc2 4294967295 dr_cX17_result_215 wr_11_108 ?_
      refine G_land dr_cX17_result_218 (G_namL fun u2107 hu2107 => ?_)
      exact G_lretA dr_cX17_result_219 rfl (Nat.le_of_ble_eq_true rfl) (Nat.le_of_ble_eq_true rfl) ⟨u2107, rfl, rfl, (Nat.le_of_ble_eq_true rfl), (Nat.le_of_ble_eq_true rfl), (fun R c1 c2 c3 c4 c5 c6 c7 c8 c9 c10 c11 c12 c13 c14 c15 c16 c17 c18 c19 c20 => c18 u2106 u2107 ehs2100 r2105 hu2106 hu2107)⟩
  have ehs2036 := lv_neT hs2036 (show Int32.toInt 1 = 1 by decide)
  have ehs2040 := lv_neT hs2040 (show Int32.toInt 2 = 2 by decide)
  have ehs2044 := lv_neT hs2044 (show Int32.toInt 3 = 3 by decide)
  have ehs2048 := lv_neT hs2048 (show Int32.toInt 4 = 4 by decide)
  have ehs2055 := lv_neT hs2055 (show Int32.toInt 5 = 5 by decide)
  have ehs2062 := lv_neT hs2062 (show Int32.toInt 6 = 6 by decide)
  have ehs2066 := lv_neT hs2066 (show Int32.toInt 7 = 7 by decide)
  have ehs2070 := lv_neT hs2070 (show Int32.toInt 8 = 8 by decide)
  have ehs2074 := lv_neT hs2074 (show Int32.toInt 9 = 9 by decide)
  have ehs2079 := lv_neT hs2079 (show Int32.toInt 10 = 10 by decide)
  have ehs2084 := lv_neT hs2084 (show Int32.toInt 11 = 11 by decide)
  have ehs2092 := lv_neT hs2092 (show Int32.toInt 12 = 12 by decide)
  have ehs2100 := lv_neT hs2100 (show Int32.toInt 13 = 13 by decide)
  refine G_tableOut 202 dr_cX17_result_1 (by omega) (by decide) ?_
  refine G_iload_n 1 dr_cX17_result_202 rfl ?_
  refine G_iload_n 2 dr_cX17_result_203 rfl ?_
  refine G_icmp_eq 211 dr_cX17_result_204 (by decide +kernel) (fun hc2108 => ?_) (fun hc2108 => ?_)
  · have r2109 : p2033.toInt = p2034.toInt := gC_eq hc2108
    refine G_iconst 0 dr_cX17_result_211 (by decide +kernel) ?_
    refine G_istore_n (L' := [(3, .int 0), (0, .int p2032), (1, .int p2033), (2, .int p2034)]) dr_cX17_result_212 (Nat.le_of_ble_eq_true rfl) rfl ?_
    refine G_iload_n 0 dr_cX17_result_213 rfl ?_
    refine G_i2l dr_cX17_result_214 (G_namL fun u2110 hu2110 => ?_)
    refine G_ldc2 4294967295 dr_cX17_result_215 wr_11_108 ?_
    refine G_land dr_cX17_result_218 (G_namL fun u2111 hu2111 => ?_)
    exact G_lretA dr_cX17_result_219 rfl (Nat.le_of_ble_eq_true rfl) (Nat.le_of_ble_eq_true rfl) ⟨u2111, rfl, rfl, (Nat.le_of_ble_eq_true rfl), (Nat.le_of_ble_eq_true rfl), (fun R c1 c2 c3 c4 c5 c6 c7 c8 c9 c10 c11 c12 c13 c14 c15 c16 c17 c18 c19 c20 => c19 u2110 u2111 ehs2036 ehs2040 ehs2044 ehs2048 ehs2055 ehs2062 ehs2066 ehs2070 ehs2074 ehs2079 ehs2084 ehs2092 ehs2100 r2109 hu2110 hu2111)⟩
  · have r2112 : p2033.toInt ≠ p2034.toInt := gC_ne hc2108
    refine G_iconst 1 dr_cX17_result_207 (by decide +kernel) ?_
    refine G_goto 212 dr_cX17_result_208 (by decide +kernel) ?_
    refine G_istore_n (L' := [(3, .int 1), (0, .int p2032), (1, .int p2033), (2, .int p2034)]) dr_cX17_result_212 (Nat.le_of_ble_eq_true rfl) rfl ?_
    refine G_iload_n 0 dr_cX17_result_213 rfl ?_
    refine G_i2l dr_cX17_result_214 (G_namL fun u2113 hu2113 => ?_)
    refine G_ldc2 4294967295 dr_cX17_result_215 wr_11_108 ?_
    refine G_land dr_cX17_result_218 (G_namL fun u2114 hu2114 => ?_)
    exact G_lretA dr_cX17_result_219 rfl (Nat.le_of_ble_eq_true rfl) (Nat.le_of_ble_eq_true rfl) ⟨u2114, rfl, rfl, (Nat.le_of_ble_eq_true rfl), (Nat.le_of_ble_eq_true rfl), (fun R c1 c2 c3 c4 c5 c6 c7 c8 c9 c10 c11 c12 c13 c14 c15 c16 c17 c18 c19 c20 => c20 u2113 u2114 ehs2036 ehs2040 ehs2044 ehs2048 ehs2055 ehs2062 ehs2066 ehs2070 ehs2074 ehs2079 ehs2084 ehs2092 ehs2100 r2112 hu2113 hu2114)⟩
/- tr_RInteger_numberOfTrailingZeros: result -/
def tr_RInteger_numberOfTrailingZeros (a0 : Int32) (o1 : Int32) : Prop := ∀ R : (Int32) → Prop,
  (∀ (x1 : Int32) (x2 : Int32) (x3 : Int32) (x4 : Int32) (x5 : Int32), x1 = a0 ^^^ (-1 : Int32) → x2 = a0 - (1 : Int32) → x3 = x1 &&& x2 → 0 < x3.toInt → x3.toInt ≤ 65536 → x3.toInt ≤ 256 → x3.toInt ≤ 16 → x3.toInt ≤ 4 → x4 = (x3.toUInt32 >>> ((1 : Int32).toUInt32 &&& Int32.toUInt32 31)).toInt32 → x5 = (1 : Int32) + x4 → R x5) →
  (∀ (x1 : Int32) (x2 : Int32) (x3 : Int32) (x4 : Int32) (x5 : Int32) (x6 : Int32), x1 = a0 ^^^ (-1 : Int32) → x2 = a0 - (1 : Int32) → x3 = x1 &&& x2 → 0 < x3.toInt → x3.toInt ≤ 65536 → x3.toInt ≤ 256 → x3.toInt ≤ 16 → 4 < x3.toInt → x4 = (x3.toUInt32 >>> ((2 : Int32).toUInt32 &&& Int32.toUInt32 31)).toInt32 → x5 = (x4.toUInt32 >>> ((1 : Int32).toUInt32 &&& Int32.toUInt32 31)).toInt32 → x6 = (3 : Int32) + x5 → R x6) →
  (∀ (x1 : Int32) (x2 : Int32) (x3 : Int32) (x4 : Int32) (x5 : Int32) (x6 : Int32), x1 = a0 ^^^ (-1 : Int32) → x2 = a0 - (1 : Int32) → x3 = x1 &&& x2 → 0 < x3.toInt → x3.toInt ≤ 65536 → x3.toInt ≤ 256 → 16 < x3.toInt → x4 = (x3.toUInt32 >>> ((4 : Int32).toUInt32 &&& Int32.toUInt32 31)).toInt32 → x4.toInt ≤ 4 → x5 = (x4.toUInt32 >>> ((1 : Int32).toUInt32 &&& Int32.toUInt32 31)).toInt32 → x6 = (5 : Int32) + x5 → R x6) →
  (∀ (x1 : Int32) (x2 : Int32) (x3 : Int32) (x4 : Int32) (x5 : Int32) (x6 : Int32) (x7 : Int32), x1 = a0 ^^^ (-1 : Int32) → x2 = a0 - (1 : Int32) → x3 = x1 &&& x2 → 0 < x3.toInt → x3.toInt ≤ 65536 → x3.toInt ≤ 256 → 16 < x3.toInt → x4 = (x3.toUInt32 >>> ((4 : Int32).toUInt32 &&& Int32.toUInt32 31)).toInt32 → 4 < x4.toInt → x5 = (x4.toUInt32 >>> ((2 : Int32).toUInt32 &&& Int32.toUInt32 31)).toInt32 → x6 = (x5.toUInt32 >>> ((1 : Int32).toUInt32 &&& Int32.toUInt32 31)).toInt32 → x7 = (7 : Int32) + x6 → R x7) →
  (∀ (x1 : Int32) (x2 : Int32) (x3 : Int32) (x4 : Int32) (x5 : Int32) (x6 : Int32), x1 = a0 ^^^ (-1 : Int32) → x2 = a0 - (1 : Int32) → x3 = x1 &&& x2 → 0 < x3.toInt → x3.toInt ≤ 65536 → 256 < x3.toInt → x4 = (x3.toUInt32 >>> ((8 : Int32).toUInt32 &&& Int32.toUInt32 31)).toInt32 → x4.toInt ≤ 16 → x4.toInt ≤ 4 → x5 = (x4.toUInt32 >>> ((1 : Int32).toUInt32 &&& Int32.toUInt32 31)).toInt32 → x6 = (9 : Int32) + x5 → R x6) →
  (∀ (x1 : Int32) (x2 : Int32) (x3 : Int32) (x4 : Int32) (x5 : Int32) (x6 : Int32) (x7 : Int32), x1 = a0 ^^^ (-1 : Int32) → x2 = a0 - (1 : Int32) → x3 = x1 &&& x2 → 0 < x3.toInt → x3.toInt ≤ 65536 → 256 < x3.toInt → x4 = (x3.toUInt32 >>> ((8 : Int32).toUInt32 &&& Int32.toUInt32 31)).toInt32 → x4.toInt ≤ 16 → 4 < x4.toInt → x5 = (x4.toUInt32 >>> ((2 : Int32).toUInt32 &&& Int32.toUInt32 31)).toInt32 → x6 = (x5.toUInt32 >>> ((1 : Int32).toUInt32 &&& Int32.toUInt32 31)).toInt32 → x7 = (11 : Int32) + x6 → R x7) →
  (∀ (x1 : Int32) (x2 : Int32) (x3 : Int32) (x4 : Int32) (x5 : Int32) (x6 : Int32) (x7 : Int32), x1 = a0 ^^^ (-1 : Int32) → x2 = a0 - (1 : Int32) → x3 = x1 &&& x2 → 0 < x3.toInt → x3.toInt ≤ 65536 → 256 < x3.toInt → x4 = (x3.toUInt32 >>> ((8 : Int32).toUInt32 &&& Int32.toUInt32 31)).toInt32 → 16 < x4.toInt → x5 = (x4.toUInt32 >>> ((4 : Int32).toUInt32 &&& Int32.toUInt32 31)).toInt32 → x5.toInt ≤ 4 → x6 = (x5.toUInt32 >>> ((1 : Int32).toUInt32 &&& Int32.toUInt32 31)).toInt32 → x7 = (13 : Int32) + x6 → R x7) →
  (∀ (x1 : Int32) (x2 : Int32) (x3 : Int32) (x4 : Int32) (x5 : Int32) (x6 : Int32) (x7 : Int32) (x8 : Int32), x1 = a0 ^^^ (-1 : Int32) → x2 = a0 - (1 : Int32) → x3 = x1 &&& x2 → 0 < x3.toInt → x3.toInt ≤ 65536 → 256 < x3.toInt → x4 = (x3.toUInt32 >>> ((8 : Int32).toUInt32 &&& Int32.toUInt32 31)).toInt32 → 16 < x4.toInt → x5 = (x4.toUInt32 >>> ((4 : Int32).toUInt32 &&& Int32.toUInt32 31)).toInt32 → 4 < x5.toInt → x6 = (x5.toUInt32 >>> ((2 : Int32).toUInt32 &&& Int32.toUInt32 31)).toInt32 → x7 = (x6.toUInt32 >>> ((1 : Int32).toUInt32 &&& Int32.toUInt32 31)).toInt32 → x8 = (15 : Int32) + x7 → R x8) →
  (∀ (x1 : Int32) (x2 : Int32) (x3 : Int32) (x4 : Int32) (x5 : Int32) (x6 : Int32), x1 = a0 ^^^ (-1 : Int32) → x2 = a0 - (1 : Int32) → x3 = x1 &&& x2 → 0 < x3.toInt → 65536 < x3.toInt → x4 = (x3.toUInt32 >>> ((16 : Int32).toUInt32 &&& Int32.toUInt32 31)).toInt32 → x4.toInt ≤ 256 → x4.toInt ≤ 16 → x4.toInt ≤ 4 → x5 = (x4.toUInt32 >>> ((1 : Int32).toUInt32 &&& Int32.toUInt32 31)).toInt32 → x6 = (17 : Int32) + x5 → R x6) →
  (∀ (x1 : Int32) (x2 : Int32) (x3 : Int32) (x4 : Int32) (x5 : Int32) (x6 : Int32) (x7 : Int32), x1 = a0 ^^^ (-1 : Int32) → x2 = a0 - (1 : Int32) → x3 = x1 &&& x2 → 0 < x3.toInt → 65536 < x3.toInt → x4 = (x3.toUInt32 >>> ((16 : Int32).toUInt32 &&& Int32.toUInt32 31)).toInt32 → x4.toInt ≤ 256 → x4.toInt ≤ 16 → 4 < x4.toInt → x5 = (x4.toUInt32 >>> ((2 : Int32).toUInt32 &&& Int32.toUInt32 31)).toInt32 → x6 = (x5.toUInt32 >>> ((1 : Int32).toUInt32 &&& Int32.toUInt32 31)).toInt32 → x7 = (19 : Int32) + x6 → R x7) →
  (∀ (x1 : Int32) (x2 : Int32) (x3 : Int32) (x4 : Int32) (x5 : Int32) (x6 : Int32) (x7 : Int32), x1 = a0 ^^^ (-1 : Int32) → x2 = a0 - (1 : Int32) → x3 = x1 &&& x2 → 0 < x3.toInt → 65536 < x3.toInt → x4 = (x3.toUInt32 >>> ((16 : Int32).toUInt32 &&& Int32.toUInt32 31)).toInt32 → x4.toInt ≤ 256 → 16 < x4.toInt → x5 = (x4.toUInt32 >>> ((4 : Int32).toUInt32 &&& Int32.toUInt32 31)).toInt32 → x5.toInt ≤ 4 → x6 = (x5.toUInt32 >>> ((1 : Int32).toUInt32 &&& Int32.toUInt32 31)).toInt32 → x7 = (21 : Int32) + x6 → R x7) →
  (∀ (x1 : Int32) (x2 : Int32) (x3 : Int32) (x4 : Int32) (x5 : Int32) (x6 : Int32) (x7 : Int32) (x8 : Int32), x1 = a0 ^^^ (-1 : Int32) → x2 = a0 - (1 : Int32) → x3 = x1 &&& x2 → 0 < x3.toInt → 65536 < x3.toInt → x4 = (x3.toUInt32 >>> ((16 : Int32).toUInt32 &&& Int32.toUInt32 31)).toInt32 → x4.toInt ≤ 256 → 16 < x4.toInt → x5 = (x4.toUInt32 >>> ((4 : Int32).toUInt32 &&& Int32.toUInt32 31)).toInt32 → 4 < x5.toInt → x6 = (x5.toUInt32 >>> ((2 : Int32).toUInt32 &&& Int32.toUInt32 31)).toInt32 → x7 = (x6.toUInt32 >>> ((1 : Int32).toUInt32 &&& Int32.toUInt32 31)).toInt32 → x8 = (23 : Int32) + x7 → R x8) →
  (∀ (x1 : Int32) (x2 : Int32) (x3 : Int32) (x4 : Int32) (x5 : Int32) (x6 : Int32) (x7 : Int32), x1 = a0 ^^^ (-1 : Int32) → x2 = a0 - (1 : Int32) → x3 = x1 &&& x2 → 0 < x3.toInt → 65536 < x3.toInt → x4 = (x3.toUInt32 >>> ((16 : Int32).toUInt32 &&& Int32.toUInt32 31)).toInt32 → 256 < x4.toInt → x5 = (x4.toUInt32 >>> ((8 : Int32).toUInt32 &&& Int32.toUInt32 31)).toInt32 → x5.toInt ≤ 16 → x5.toInt ≤ 4 → x6 = (x5.toUInt32 >>> ((1 : Int32).toUInt32 &&& Int32.toUInt32 31)).toInt32 → x7 = (25 : Int32) + x6 → R x7) →
  (∀ (x1 : Int32) (x2 : Int32) (x3 : Int32) (x4 : Int32) (x5 : Int32) (x6 : Int32) (x7 : Int32) (x8 : Int32), x1 = a0 ^^^ (-1 : Int32) → x2 = a0 - (1 : Int32) → x3 = x1 &&& x2 → 0 < x3.toInt → 65536 < x3.toInt → x4 = (x3.toUInt32 >>> ((16 : Int32).toUInt32 &&& Int32.toUInt32 31)).toInt32 → 256 < x4.toInt → x5 = (x4.toUInt32 >>> ((8 : Int32).toUInt32 &&& Int32.toUInt32 31)).toInt32 → x5.toInt ≤ 16 → 4 < x5.toInt → x6 = (x5.toUInt32 >>> ((2 : Int32).toUInt32 &&& Int32.toUInt32 31)).toInt32 → x7 = (x6.toUInt32 >>> ((1 : Int32).toUInt32 &&& Int32.toUInt32 31)).toInt32 → x8 = (27 : Int32) + x7 → R x8) →
  (∀ (x1 : Int32) (x2 : Int32) (x3 : Int32) (x4 : Int32) (x5 : Int32) (x6 : Int32) (x7 : Int32) (x8 : Int32), x1 = a0 ^^^ (-1 : Int32) → x2 = a0 - (1 : Int32) → x3 = x1 &&& x2 → 0 < x3.toInt → 65536 < x3.toInt → x4 = (x3.toUInt32 >>> ((16 : Int32).toUInt32 &&& Int32.toUInt32 31)).toInt32 → 256 < x4.toInt → x5 = (x4.toUInt32 >>> ((8 : Int32).toUInt32 &&& Int32.toUInt32 31)).toInt32 → 16 < x5.toInt → x6 = (x5.toUInt32 >>> ((4 : Int32).toUInt32 &&& Int32.toUInt32 31)).toInt32 → x6.toInt ≤ 4 → x7 = (x6.toUInt32 >>> ((1 : Int32).toUInt32 &&& Int32.toUInt32 31)).toInt32 → x8 = (29 : Int32) + x7 → R x8) →
  (∀ (x1 : Int32) (x2 : Int32) (x3 : Int32) (x4 : Int32) (x5 : Int32) (x6 : Int32) (x7 : Int32) (x8 : Int32) (x9 : Int32), x1 = a0 ^^^ (-1 : Int32) → x2 = a0 - (1 : Int32) → x3 = x1 &&& x2 → 0 < x3.toInt → 65536 < x3.toInt → x4 = (x3.toUInt32 >>> ((16 : Int32).toUInt32 &&& Int32.toUInt32 31)).toInt32 → 256 < x4.toInt → x5 = (x4.toUInt32 >>> ((8 : Int32).toUInt32 &&& Int32.toUInt32 31)).toInt32 → 16 < x5.toInt → x6 = (x5.toUInt32 >>> ((4 : Int32).toUInt32 &&& Int32.toUInt32 31)).toInt32 → 4 < x6.toInt → x7 = (x6.toUInt32 >>> ((2 : Int32).toUInt32 &&& Int32.toUInt32 31)).toInt32 → x8 = (x7.toUInt32 >>> ((1 : Int32).toUInt32 &&& Int32.toUInt32 31)).toInt32 → x9 = (31 : Int32) + x8 → R x9) →
  (∀ (x1 : Int32) (x2 : Int32) (x3 : Int32) (x4 : Int32), x1 = a0 ^^^ (-1 : Int32) → x2 = a0 - (1 : Int32) → x3 = x1 &&& x2 → x3.toInt ≤ 0 → x4 = x3 &&& (32 : Int32) → R x4) →
  R o1
abbrev ky_2126_Integer_numberOfTrailingZeros : gKey := (cJ6_numberOfTrailingZeros_0f7a4, 2, "java/lang/Integer", (some FieldType.int), [], "numberOfTrailingZeros", fun _ _ => True)
def pp_2126_Integer_numberOfTrailingZeros (D : va_G) (I : FieldType → ClassId) (P2123 : List Nat) (F2124 : Nat → va_E) (p2125 : Int32) : Option Value → va_W → Nat → Nat → Prop := fun r w dc ds => ∃ (o2226 : Int32), r = some (.int o2226) ∧ w = va_pl P2123 F2124 ∧ dc ≤ 0 ∧ ds ≤ 0 ∧ tr_RInteger_numberOfTrailingZeros p2125 o2226
set_option maxRecDepth 100000 in
set_option maxHeartbeats 4000000 in
theorem cp_2126_Integer_numberOfTrailingZeros (l : Launch) (hl0 : l.stackTraces = false) (D : va_G) (I : FieldType → ClassId) (P2123 : List Nat) (F2124 : Nat → va_E) (p2125 : Int32)  : CtA (gV D I) l yJ6_numberOfTrailingZeros_0f7a4 cJ6_numberOfTrailingZeros_0f7a4 2 (some FieldType.int) 0 0 0 0 [.int p2125] (va_pl P2123 F2124) (pp_2126_Integer_numberOfTrailingZeros D I P2123 F2124 p2125) gNA := by
  refine CtA_ofF hl0 (by decide +kernel) (Nat.le_of_ble_eq_true rfl) ?_
  have bp2125 := gB_any p2125
  refine G_iload_n 0 dr_cJ6_numberOfTrailingZeros_0f7a4_0 rfl ?_
  refine G_iconst (-1) dr_cJ6_numberOfTrailingZeros_0f7a4_1 (by decide +kernel) ?_
  refine G_ixor dr_cJ6_numberOfTrailingZeros_0f7a4_2 (G_nam fun z2127 hz2127 => ?_)
  have bz2127 : gB z2127 (-2147483648) 2147483647 := gB_any z2127
  refine G_iload_n 0 dr_cJ6_numberOfTrailingZeros_0f7a4_3 rfl ?_
  refine G_iconst 1 dr_cJ6_numberOfTrailingZeros_0f7a4_4 (by decide +kernel) ?_
  refine G_isub dr_cJ6_numberOfTrailingZeros_0f7a4_5 (G_nam fun z2128 hz2128 => ?_)
  have bz2128 : gB z2128 (-2147483648) 2147483647 := gB_any z2128
  refine G_iand dr_cJ6_numberOfTrailingZeros_0f7a4_6 (G_nam fun z2129 hz2129 => ?_)
  have bz2129 : gB z2129 (-2147483648) 2147483647 := gB_any z2129
  refine G_istore_n (L' := [(0, .int z2129)]) dr_cJ6_numberOfTrailingZeros_0f7a4_7 (Nat.le_of_ble_eq_true rfl) rfl ?_
  refine G_iload_n 0 dr_cJ6_numberOfTrailingZeros_0f7a4_8 rfl ?_
  refine G_if_gt 17 dr_cJ6_numberOfTrailingZeros_0f7a4_9 (by decide +kernel) (fun hc2130 => ?_) (fun hc2130 => ?_)
  · have r2131 : 0 < z2129.toInt := gj_ltL hc2130 (show Int32.toInt 0 = 0 by decide)
    have bz2129' : gB z2129 1 2147483647 := ⟨by omega, by omega⟩
    refine G_iconst 1 dr_cJ6_numberOfTrailingZeros_0f7a4_17 (by decide +kernel) ?_
    refine G_istore_n (L' := [(1, .int 1), (0, .int z2129)]) dr_cJ6_numberOfTrailingZeros_0f7a4_18 (Nat.le_of_ble_eq_true rfl) rfl ?_
    refine G_iload_n 1 dr_cJ6_numberOfTrailingZeros_0f7a4_19 rfl ?_
    refine G_ldcw 65536 dr_cJ6_numberOfTrailingZeros_0f7a4_20 wr_11_7 ?_
    refine G_icmp_le 34 dr_cJ6_numberOfTrailingZeros_0f7a4_23 (by decide +kernel) (fun hc2132 => ?_) (fun hc2132 => ?_)
    · have r2133 : z2129.toInt ≤ 65536 := gj_le hc2132 (show Int32.toInt 65536 = 65536 by decide)
      have bz2129'' : gB z2129 1 65536 := ⟨by omega, by omega⟩
      refine G_iload_n 1 dr_cJ6_numberOfTrailingZeros_0f7a4_34 rfl ?_
      refine G_sipush 256 dr_cJ6_numberOfTrailingZeros_0f7a4_35 (by decide +kernel) ?_
      refine G_icmp_le 49 dr_cJ6_numberOfTrailingZeros_0f7a4_38 (by decide +kernel) (fun hc2134 => ?_) (fun hc2134 => ?_)
      · have r2135 : z2129.toInt ≤ 256 := gj_le hc2134 (show Int32.toInt 256 = 256 by decide)
        have bz2129''' : gB z2129 1 256 := ⟨by omega, by omega⟩
        refine G_iload_n 1 dr_cJ6_numberOfTrailingZeros_0f7a4_49 rfl ?_
        refine G_bipush 16 dr_cJ6_numberOfTrailingZeros_0f7a4_50 (by decide +kernel) ?_
        refine G_icmp_le 62 dr_cJ6_numberOfTrailingZeros_0f7a4_52 (by decide +kernel) (fun hc2136 => ?_) (fun hc2136 => ?_)
        · have r2137 : z2129.toInt ≤ 16 := gj_le hc2136 (show Int32.toInt 16 = 16 by decide)
          have bz2129'''' : gB z2129 1 16 := ⟨by omega, by omega⟩
          refine G_iload_n 1 dr_cJ6_numberOfTrailingZeros_0f7a4_62 rfl ?_
          refine G_iconst 4 dr_cJ6_numberOfTrailingZeros_0f7a4_63 (by decide +kernel) ?_
          refine G_icmp_le 74 dr_cJ6_numberOfTrailingZeros_0f7a4_64 (by decide +kernel) (fun hc2138 => ?_) (fun hc2138 => ?_)
          · have r2139 : z2129.toInt ≤ 4 := gj_le hc2138 (show Int32.toInt 4 = 4 by decide)
            have bz2129''''' : gB z2129 1 4 := ⟨by omega, by omega⟩
            refine G_iload_n 0 dr_cJ6_numberOfTrailingZeros_0f7a4_74 rfl ?_
            refine G_iload_n 1 dr_cJ6_numberOfTrailingZeros_0f7a4_75 rfl ?_
            refine G_iconst 1 dr_cJ6_numberOfTrailingZeros_0f7a4_76 (by decide +kernel) ?_
            refine G_iushr dr_cJ6_numberOfTrailingZeros_0f7a4_77 (G_nam fun z2140 hz2140 => ?_)
            have bz2140 : gB z2140 (-2147483648) 2147483647 := gB_any z2140
            refine G_iadd dr_cJ6_numberOfTrailingZeros_0f7a4_78 (G_nam fun z2141 hz2141 => ?_)
            have bz2141 : gB z2141 (-2147483648) 2147483647 := gB_any z2141
            exact G_iretA dr_cJ6_numberOfTrailingZeros_0f7a4_79 rfl (Nat.le_of_ble_eq_true rfl) (Nat.le_of_ble_eq_true rfl) ⟨z2141, rfl, rfl, (Nat.le_of_ble_eq_true rfl), (Nat.le_of_ble_eq_true rfl), (fun R c1 c2 c3 c4 c5 c6 c7 c8 c9 c10 c11 c12 c13 c14 c15 c16 c17 => c1 z2127 z2128 z2129 z2140 z2141 hz2127 hz2128 hz2129 r2131 r2133 r2135 r2137 r2139 hz2140 hz2141)⟩
          · have r2142 : 4 < z2129.toInt := gj_nle hc2138 (show Int32.toInt 4 = 4 by decide)
            have bz2129''''' : gB z2129 5 16 := ⟨by omega, by omega⟩
            refine G_iinc (L' := [(1, .int 3), (0, .int z2129)]) (3) 0 dr_cJ6_numberOfTrailingZeros_0f7a4_67 rfl (by decide) (Nat.le_of_ble_eq_true rfl) rfl ?_
            refine G_iload_n 1 dr_cJ6_numberOfTrailingZeros_0f7a4_70 rfl ?_
            refine G_iconst 2 dr_cJ6_numberOfTrailingZeros_0f7a4_71 (by decide +kernel) ?_
            refine G_iushr dr_cJ6_numberOfTrailingZeros_0f7a4_72 (G_nam fun z2143 hz2143 => ?_)
            have bz2143 : gB z2143 (-2147483648) 2147483647 := gB_any z2143
            refine G_istore_n (L' := [(0, .int z2143), (1, .int 3)]) dr_cJ6_numberOfTrailingZeros_0f7a4_73 (Nat.le_of_ble_eq_true rfl) rfl ?_
            refine G_iload_n 1 dr_cJ6_numberOfTrailingZeros_0f7a4_74 rfl ?_
            refine G_iload_n 0 dr_cJ6_numberOfTrailingZeros_0f7a4_75 rfl ?_
            refine G_iconst 1 dr_cJ6_numberOfTrailingZeros_0f7a4_76 (by decide +kernel) ?_
            refine G_iushr dr_cJ6_numberOfTrailingZeros_0f7a4_77 (G_nam fun z2144 hz2144 => ?_)
            have bz2144 : gB z2144 (-2147483648) 2147483647 := gB_any z2144
            refine G_iadd dr_cJ6_numberOfTrailingZeros_0f7a4_78 (G_nam fun z2145 hz2145 => ?_)
            have bz2145 : gB z2145 (-2147483648) 2147483647 := gB_any z2145
            exact G_iretA dr_cJ6_numberOfTrailingZeros_0f7a4_79 rfl (Nat.le_of_ble_eq_true rfl) (Nat.le_of_ble_eq_true rfl) ⟨z2145, rfl, rfl, (Nat.le_of_ble_eq_true rfl), (Nat.le_of_ble_eq_true rfl), (fun R c1 c2 c3 c4 c5 c6 c7 c8 c9 c10 c11 c12 c13 c14 c15 c16 c17 => c2 z2127 z2128 z2129 z2143 z2144 z2145 hz2127 hz2128 hz2129 r2131 r2133 r2135 r2137 r2142 hz2143 hz2144 hz2145)⟩
        · have r2146 : 16 < z2129.toInt := gj_nle hc2136 (show Int32.toInt 16 = 16 by decide)
          have bz2129'''' : gB z2129 17 256 := ⟨by omega, by omega⟩
          refine G_iinc (L' := [(1, .int 5), (0, .int z2129)]) (5) 0 dr_cJ6_numberOfTrailingZeros_0f7a4_55 rfl (by decide) (Nat.le_of_ble_eq_true rfl) rfl ?_
          refine G_iload_n 1 dr_cJ6_numberOfTrailingZeros_0f7a4_58 rfl ?_
          refine G_iconst 4 dr_cJ6_numberOfTrailingZeros_0f7a4_59 (by decide +kernel) ?_
          refine G_iushr dr_cJ6_numberOfTrailingZeros_0f7a4_60 (G_nam fun z2147 hz2147 => ?_)
          have bz2147 : gB z2147 (-2147483648) 2147483647 := gB_any z2147
          refine G_istore_n (L' := [(0, .int z2147), (1, .int 5)]) dr_cJ6_numberOfTrailingZeros_0f7a4_61 (Nat.le_of_ble_eq_true rfl) rfl ?_
          refine G_iload_n 0 dr_cJ6_numberOfTrailingZeros_0f7a4_62 rfl ?_
          refine G_iconst 4 dr_cJ6_numberOfTrailingZeros_0f7a4_63 (by decide +kernel) ?_
          refine G_icmp_le 74 dr_cJ6_numberOfTrailingZeros_0f7a4_64 (by decide +kernel) (fun hc2148 => ?_) (fun hc2148 => ?_)
          · have r2149 : z2147.toInt ≤ 4 := gj_le hc2148 (show Int32.toInt 4 = 4 by decide)
            have bz2147' : gB z2147 (-2147483648) 4 := ⟨by omega, by omega⟩
            refine G_iload_n 1 dr_cJ6_numberOfTrailingZeros_0f7a4_74 rfl ?_
            refine G_iload_n 0 dr_cJ6_numberOfTrailingZeros_0f7a4_75 rfl ?_
            refine G_iconst 1 dr_cJ6_numberOfTrailingZeros_0f7a4_76 (by decide +kernel) ?_
            refine G_iushr dr_cJ6_numberOfTrailingZeros_0f7a4_77 (G_nam fun z2150 hz2150 => ?_)
            have bz2150 : gB z2150 (-2147483648) 2147483647 := gB_any z2150
            refine G_iadd dr_cJ6_numberOfTrailingZeros_0f7a4_78 (G_nam fun z2151 hz2151 => ?_)
            have bz2151 : gB z2151 (-2147483648) 2147483647 := gB_any z2151
            exact G_iretA dr_cJ6_numberOfTrailingZeros_0f7a4_79 rfl (Nat.le_of_ble_eq_true rfl) (Nat.le_of_ble_eq_true rfl) ⟨z2151, rfl, rfl, (Nat.le_of_ble_eq_true rfl), (Nat.le_of_ble_eq_true rfl), (fun R c1 c2 c3 c4 c5 c6 c7 c8 c9 c10 c11 c12 c13 c14 c15 c16 c17 => c3 z2127 z2128 z2129 z2147 z2150 z2151 hz2127 hz2128 hz2129 r2131 r2133 r2135 r2146 hz2147 r2149 hz2150 hz2151)⟩
          · have r2152 : 4 < z2147.toInt := gj_nle hc2148 (show Int32.toInt 4 = 4 by decide)
            have bz2147' : gB z2147 5 2147483647 := ⟨by omega, by omega⟩
            refine G_iinc (L' := [(1, .int 7), (0, .int z2147)]) (7) 1 dr_cJ6_numberOfTrailingZeros_0f7a4_67 rfl (by decide) (Nat.le_of_ble_eq_true rfl) rfl ?_
            refine G_iload_n 1 dr_cJ6_numberOfTrailingZeros_0f7a4_70 rfl ?_
            refine G_iconst 2 dr_cJ6_numberOfTrailingZeros_0f7a4_71 (by decide +kernel) ?_
            refine G_iushr dr_cJ6_numberOfTrailingZeros_0f7a4_72 (G_nam fun z2153 hz2153 => ?_)
            have bz2153 : gB z2153 (-2147483648) 2147483647 := gB_any z2153
            refine G_istore_n (L' := [(0, .int z2153), (1, .int 7)]) dr_cJ6_numberOfTrailingZeros_0f7a4_73 (Nat.le_of_ble_eq_true rfl) rfl ?_
            refine G_iload_n 1 dr_cJ6_numberOfTrailingZeros_0f7a4_74 rfl ?_
            refine G_iload_n 0 dr_cJ6_numberOfTrailingZeros_0f7a4_75 rfl ?_
            refine G_iconst 1 dr_cJ6_numberOfTrailingZeros_0f7a4_76 (by decide +kernel) ?_
            refine G_iushr dr_cJ6_numberOfTrailingZeros_0f7a4_77 (G_nam fun z2154 hz2154 => ?_)
            have bz2154 : gB z2154 (-2147483648) 2147483647 := gB_any z2154
            refine G_iadd dr_cJ6_numberOfTrailingZeros_0f7a4_78 (G_nam fun z2155 hz2155 => ?_)
            have bz2155 : gB z2155 (-2147483648) 2147483647 := gB_any z2155
            exact G_iretA dr_cJ6_numberOfTrailingZeros_0f7a4_79 rfl (Nat.le_of_ble_eq_true rfl) (Nat.le_of_ble_eq_true rfl) ⟨z2155, rfl, rfl, (Nat.le_of_ble_eq_true rfl), (Nat.le_of_ble_eq_true rfl), (fun R c1 c2 c3 c4 c5 c6 c7 c8 c9 c10 c11 c12 c13 c14 c15 c16 c17 => c4 z2127 z2128 z2129 z2147 z2153 z2154 z2155 hz2127 hz2128 hz2129 r2131 r2133 r2135 r2146 hz2147 r2152 hz2153 hz2154 hz2155)⟩
      · have r2156 : 256 < z2129.toInt := gj_nle hc2134 (show Int32.toInt 256 = 256 by decide)
        have bz2129''' : gB z2129 257 65536 := ⟨by omega, by omega⟩
        refine G_iinc (L' := [(1, .int 9), (0, .int z2129)]) (9) 0 dr_cJ6_numberOfTrailingZeros_0f7a4_41 rfl (by decide) (Nat.le_of_ble_eq_true rfl) rfl ?_
        refine G_iload_n 1 dr_cJ6_numberOfTrailingZeros_0f7a4_44 rfl ?_
        refine G_bipush 8 dr_cJ6_numberOfTrailingZeros_0f7a4_45 (by decide +kernel) ?_
        refine G_iushr dr_cJ6_numberOfTrailingZeros_0f7a4_47 (G_nam fun z2157 hz2157 => ?_)
        have bz2157 : gB z2157 (-2147483648) 2147483647 := gB_any z2157
        refine G_istore_n (L' := [(0, .int z2157), (1, .int 9)]) dr_cJ6_numberOfTrailingZeros_0f7a4_48 (Nat.le_of_ble_eq_true rfl) rfl ?_
        refine G_iload_n 0 dr_cJ6_numberOfTrailingZeros_0f7a4_49 rfl ?_
        refine G_bipush 16 dr_cJ6_numberOfTrailingZeros_0f7a4_50 (by decide +kernel) ?_
        refine G_icmp_le 62 dr_cJ6_numberOfTrailingZeros_0f7a4_52 (by decide +kernel) (fun hc2158 => ?_) (fun hc2158 => ?_)
        · have r2159 : z2157.toInt ≤ 16 := gj_le hc2158 (show Int32.toInt 16 = 16 by decide)
          have bz2157' : gB z2157 (-2147483648) 16 := ⟨by omega, by omega⟩
          refine G_iload_n 0 dr_cJ6_numberOfTrailingZeros_0f7a4_62 rfl ?_
          refine G_iconst 4 dr_cJ6_numberOfTrailingZeros_0f7a4_63 (by decide +kernel) ?_
          refine G_icmp_le 74 dr_cJ6_numberOfTrailingZeros_0f7a4_64 (by decide +kernel) (fun hc2160 => ?_) (fun hc2160 => ?_)
          · have r2161 : z2157.toInt ≤ 4 := gj_le hc2160 (show Int32.toInt 4 = 4 by decide)
            have bz2157'' : gB z2157 (-2147483648) 4 := ⟨by omega, by omega⟩
            refine G_iload_n 1 dr_cJ6_numberOfTrailingZeros_0f7a4_74 rfl ?_
            refine G_iload_n 0 dr_cJ6_numberOfTrailingZeros_0f7a4_75 rfl ?_
            refine G_iconst 1 dr_cJ6_numberOfTrailingZeros_0f7a4_76 (by decide +kernel) ?_
            refine G_iushr dr_cJ6_numberOfTrailingZeros_0f7a4_77 (G_nam fun z2162 hz2162 => ?_)
            have bz2162 : gB z2162 (-2147483648) 2147483647 := gB_any z2162
            refine G_iadd dr_cJ6_numberOfTrailingZeros_0f7a4_78 (G_nam fun z2163 hz2163 => ?_)
            have bz2163 : gB z2163 (-2147483648) 2147483647 := gB_any z2163
            exact G_iretA dr_cJ6_numberOfTrailingZeros_0f7a4_79 rfl (Nat.le_of_ble_eq_true rfl) (Nat.le_of_ble_eq_true rfl) ⟨z2163, rfl, rfl, (Nat.le_of_ble_eq_true rfl), (Nat.le_of_ble_eq_true rfl), (fun R c1 c2 c3 c4 c5 c6 c7 c8 c9 c10 c11 c12 c13 c14 c15 c16 c17 => c5 z2127 z2128 z2129 z2157 z2162 z2163 hz2127 hz2128 hz2129 r2131 r2133 r2156 hz2157 r2159 r2161 hz2162 hz2163)⟩
          · have r2164 : 4 < z2157.toInt := gj_nle hc2160 (show Int32.toInt 4 = 4 by decide)
            have bz2157'' : gB z2157 5 16 := ⟨by omega, by omega⟩
            refine G_iinc (L' := [(1, .int 11), (0, .int z2157)]) (11) 1 dr_cJ6_numberOfTrailingZeros_0f7a4_67 rfl (by decide) (Nat.le_of_ble_eq_true rfl) rfl ?_
            refine G_iload_n 1 dr_cJ6_numberOfTrailingZeros_0f7a4_70 rfl ?_
            refine G_iconst 2 dr_cJ6_numberOfTrailingZeros_0f7a4_71 (by decide +kernel) ?_
            refine G_iushr dr_cJ6_numberOfTrailingZeros_0f7a4_72 (G_nam fun z2165 hz2165 => ?_)
            have bz2165 : gB z2165 (-2147483648) 2147483647 := gB_any z2165
            refine G_istore_n (L' := [(0, .int z2165), (1, .int 11)]) dr_cJ6_numberOfTrailingZeros_0f7a4_73 (Nat.le_of_ble_eq_true rfl) rfl ?_
            refine G_iload_n 1 dr_cJ6_numberOfTrailingZeros_0f7a4_74 rfl ?_
            refine G_iload_n 0 dr_cJ6_numberOfTrailingZeros_0f7a4_75 rfl ?_
            refine G_iconst 1 dr_cJ6_numberOfTrailingZeros_0f7a4_76 (by decide +kernel) ?_
            refine G_iushr dr_cJ6_numberOfTrailingZeros_0f7a4_77 (G_nam fun z2166 hz2166 => ?_)
            have bz2166 : gB z2166 (-2147483648) 2147483647 := gB_any z2166
            refine G_iadd dr_cJ6_numberOfTrailingZeros_0f7a4_78 (G_nam fun z2167 hz2167 => ?_)
            have bz2167 : gB z2167 (-2147483648) 2147483647 := gB_any z2167
            exact G_iretA dr_cJ6_numberOfTrailingZeros_0f7a4_79 rfl (Nat.le_of_ble_eq_true rfl) (Nat.le_of_ble_eq_true rfl) ⟨z2167, rfl, rfl, (Nat.le_of_ble_eq_true rfl), (Nat.le_of_ble_eq_true rfl), (fun R c1 c2 c3 c4 c5 c6 c7 c8 c9 c10 c11 c12 c13 c14 c15 c16 c17 => c6 z2127 z2128 z2129 z2157 z2165 z2166 z2167 hz2127 hz2128 hz2129 r2131 r2133 r2156 hz2157 r2159 r2164 hz2165 hz2166 hz2167)⟩
        · have r2168 : 16 < z2157.toInt := gj_nle hc2158 (show Int32.toInt 16 = 16 by decide)
          have bz2157' : gB z2157 17 2147483647 := ⟨by omega, by omega⟩
          refine G_iinc (L' := [(1, .int 13), (0, .int z2157)]) (13) 1 dr_cJ6_numberOfTrailingZeros_0f7a4_55 rfl (by decide) (Nat.le_of_ble_eq_true rfl) rfl ?_
          refine G_iload_n 1 dr_cJ6_numberOfTrailingZeros_0f7a4_58 rfl ?_
          refine G_iconst 4 dr_cJ6_numberOfTrailingZeros_0f7a4_59 (by decide +kernel) ?_
          refine G_iushr dr_cJ6_numberOfTrailingZeros_0f7a4_60 (G_nam fun z2169 hz2169 => ?_)
          have bz2169 : gB z2169 (-2147483648) 2147483647 := gB_any z2169
          refine G_istore_n (L' := [(0, .int z2169), (1, .int 13)]) dr_cJ6_numberOfTrailingZeros_0f7a4_61 (Nat.le_of_ble_eq_true rfl) rfl ?_
          refine G_iload_n 0 dr_cJ6_numberOfTrailingZeros_0f7a4_62 rfl ?_
          refine G_iconst 4 dr_cJ6_numberOfTrailingZeros_0f7a4_63 (by decide +kernel) ?_
          refine G_icmp_le 74 dr_cJ6_numberOfTrailingZeros_0f7a4_64 (by decide +kernel) (fun hc2170 => ?_) (fun hc2170 => ?_)
          · have r2171 : z2169.toInt ≤ 4 := gj_le hc2170 (show Int32.toInt 4 = 4 by decide)
            have bz2169' : gB z2169 (-2147483648) 4 := ⟨by omega, by omega⟩
            refine G_iload_n 1 dr_cJ6_numberOfTrailingZeros_0f7a4_74 rfl ?_
            refine G_iload_n 0 dr_cJ6_numberOfTrailingZeros_0f7a4_75 rfl ?_
            refine G_iconst 1 dr_cJ6_numberOfTrailingZeros_0f7a4_76 (by decide +kernel) ?_
            refine G_iushr dr_cJ6_numberOfTrailingZeros_0f7a4_77 (G_nam fun z2172 hz2172 => ?_)
            have bz2172 : gB z2172 (-2147483648) 2147483647 := gB_any z2172
            refine G_iadd dr_cJ6_numberOfTrailingZeros_0f7a4_78 (G_nam fun z2173 hz2173 => ?_)
            have bz2173 : gB z2173 (-2147483648) 2147483647 := gB_any z2173
            exact G_iretA dr_cJ6_numberOfTrailingZeros_0f7a4_79 rfl (Nat.le_of_ble_eq_true rfl) (Nat.le_of_ble_eq_true rfl) ⟨z2173, rfl, rfl, (Nat.le_of_ble_eq_true rfl), (Nat.le_of_ble_eq_true rfl), (fun R c1 c2 c3 c4 c5 c6 c7 c8 c9 c10 c11 c12 c13 c14 c15 c16 c17 => c7 z2127 z2128 z2129 z2157 z2169 z2172 z2173 hz2127 hz2128 hz2129 r2131 r2133 r2156 hz2157 r2168 hz2169 r2171 hz2172 hz2173)⟩
          · have r2174 : 4 < z2169.toInt := gj_nle hc2170 (show Int32.toInt 4 = 4 by decide)
            have bz2169' : gB z2169 5 2147483647 := ⟨by omega, by omega⟩
            refine G_iinc (L' := [(1, .int 15), (0, .int z2169)]) (15) 1 dr_cJ6_numberOfTrailingZeros_0f7a4_67 rfl (by decide) (Nat.le_of_ble_eq_true rfl) rfl ?_
            refine G_iload_n 1 dr_cJ6_numberOfTrailingZeros_0f7a4_70 rfl ?_
            refine G_iconst 2 dr_cJ6_numberOfTrailingZeros_0f7a4_71 (by decide +kernel) ?_
            refine G_iushr dr_cJ6_numberOfTrailingZeros_0f7a4_72 (G_nam fun z2175 hz2175 => ?_)
            have bz2175 : gB z2175 (-2147483648) 2147483647 := gB_any z2175
            refine G_istore_n (L' := [(0, .int z2175), (1, .int 15)]) dr_cJ6_numberOfTrailingZeros_0f7a4_73 (Nat.le_of_ble_eq_true rfl) rfl ?_
            refine G_iload_n 1 dr_cJ6_numberOfTrailingZeros_0f7a4_74 rfl ?_
            refine G_iload_n 0 dr_cJ6_numberOfTrailingZeros_0f7a4_75 rfl ?_
            refine G_iconst 1 dr_cJ6_numberOfTrailingZeros_0f7a4_76 (by decide +kernel) ?_
            refine G_iushr dr_cJ6_numberOfTrailingZeros_0f7a4_77 (G_nam fun z2176 hz2176 => ?_)
            have bz2176 : gB z2176 (-2147483648) 2147483647 := gB_any z2176
            refine G_iadd dr_cJ6_numberOfTrailingZeros_0f7a4_78 (G_nam fun z2177 hz2177 => ?_)
            have bz2177 : gB z2177 (-2147483648) 2147483647 := gB_any z2177
            exact G_iretA dr_cJ6_numberOfTrailingZeros_0f7a4_79 rfl (Nat.le_of_ble_eq_true rfl) (Nat.le_of_ble_eq_true rfl) ⟨z2177, rfl, rfl, (Nat.le_of_ble_eq_true rfl), (Nat.le_of_ble_eq_true rfl), (fun R c1 c2 c3 c4 c5 c6 c7 c8 c9 c10 c11 c12 c13 c14 c15 c16 c17 => c8 z2127 z2128 z2129 z2157 z2169 z2175 z2176 z2177 hz2127 hz2128 hz2129 r2131 r2133 r2156 hz2157 r2168 hz2169 r2174 hz2175 hz2176 hz2177)⟩
    · have r2178 : 65536 < z2129.toInt := gj_nle hc2132 (show Int32.toInt 65536 = 65536 by decide)
      have bz2129'' : gB z2129 65537 2147483647 := ⟨by omega, by omega⟩
      refine G_iinc (L' := [(1, .int 17), (0, .int z2129)]) (17) 0 dr_cJ6_numberOfTrailingZeros_0f7a4_26 rfl (by decide) (Nat.le_of_ble_eq_true rfl) rfl ?_
      refine G_iload_n 1 dr_cJ6_numberOfTrailingZeros_0f7a4_29 rfl ?_
      refine G_bipush 16 dr_cJ6_numberOfTrailingZeros_0f7a4_30 (by decide +kernel) ?_
      refine G_iushr dr_cJ6_numberOfTrailingZeros_0f7a4_32 (G_nam fun z2179 hz2179 => ?_)
      have bz2179 : gB z2179 (-2147483648) 2147483647 := gB_any z2179
      refine G_istore_n (L' := [(0, .int z2179), (1, .int 17)]) dr_cJ6_numberOfTrailingZeros_0f7a4_33 (Nat.le_of_ble_eq_true rfl) rfl ?_
      refine G_iload_n 0 dr_cJ6_numberOfTrailingZeros_0f7a4_34 rfl ?_
      refine G_sipush 256 dr_cJ6_numberOfTrailingZeros_0f7a4_35 (by decide +kernel) ?_
      refine G_icmp_le 49 dr_cJ6_numberOfTrailingZeros_0f7a4_38 (by decide +kernel) (fun hc2180 => ?_) (fun hc2180 => ?_)
      · have r2181 : z2179.toInt ≤ 256 := gj_le hc2180 (show Int32.toInt 256 = 256 by decide)
        have bz2179' : gB z2179 (-2147483648) 256 := ⟨by omega, by omega⟩
        refine G_iload_n 0 dr_cJ6_numberOfTrailingZeros_0f7a4_49 rfl ?_
        refine G_bipush 16 dr_cJ6_numberOfTrailingZeros_0f7a4_50 (by decide +kernel) ?_
        refine G_icmp_le 62 dr_cJ6_numberOfTrailingZeros_0f7a4_52 (by decide +kernel) (fun hc2182 => ?_) (fun hc2182 => ?_)
        · have r2183 : z2179.toInt ≤ 16 := gj_le hc2182 (show Int32.toInt 16 = 16 by decide)
          have bz2179'' : gB z2179 (-2147483648) 16 := ⟨by omega, by omega⟩
          refine G_iload_n 0 dr_cJ6_numberOfTrailingZeros_0f7a4_62 rfl ?_
          refine G_iconst 4 dr_cJ6_numberOfTrailingZeros_0f7a4_63 (by decide +kernel) ?_
          refine G_icmp_le 74 dr_cJ6_numberOfTrailingZeros_0f7a4_64 (by decide +kernel) (fun hc2184 => ?_) (fun hc2184 => ?_)
          · have r2185 : z2179.toInt ≤ 4 := gj_le hc2184 (show Int32.toInt 4 = 4 by decide)
            have bz2179''' : gB z2179 (-2147483648) 4 := ⟨by omega, by omega⟩
            refine G_iload_n 1 dr_cJ6_numberOfTrailingZeros_0f7a4_74 rfl ?_
            refine G_iload_n 0 dr_cJ6_numberOfTrailingZeros_0f7a4_75 rfl ?_
            refine G_iconst 1 dr_cJ6_numberOfTrailingZeros_0f7a4_76 (by decide +kernel) ?_
            refine G_iushr dr_cJ6_numberOfTrailingZeros_0f7a4_77 (G_nam fun z2186 hz2186 => ?_)
            have bz2186 : gB z2186 (-2147483648) 2147483647 := gB_any z2186
            refine G_iadd dr_cJ6_numberOfTrailingZeros_0f7a4_78 (G_nam fun z2187 hz2187 => ?_)
            have bz2187 : gB z2187 (-2147483648) 2147483647 := gB_any z2187
            exact G_iretA dr_cJ6_numberOfTrailingZeros_0f7a4_79 rfl (Nat.le_of_ble_eq_true rfl) (Nat.le_of_ble_eq_true rfl) ⟨z2187, rfl, rfl, (Nat.le_of_ble_eq_true rfl), (Nat.le_of_ble_eq_true rfl), (fun R c1 c2 c3 c4 c5 c6 c7 c8 c9 c10 c11 c12 c13 c14 c15 c16 c17 => c9 z2127 z2128 z2129 z2179 z2186 z2187 hz2127 hz2128 hz2129 r2131 r2178 hz2179 r2181 r2183 r2185 hz2186 hz2187)⟩
          · have r2188 : 4 < z2179.toInt := gj_nle hc2184 (show Int32.toInt 4 = 4 by decide)
            have bz2179''' : gB z2179 5 16 := ⟨by omega, by omega⟩
            refine G_iinc (L' := [(1, .int 19), (0, .int z2179)]) (19) 1 dr_cJ6_numberOfTrailingZeros_0f7a4_67 rfl (by decide) (Nat.le_of_ble_eq_true rfl) rfl ?_
            refine G_iload_n 1 dr_cJ6_numberOfTrailingZeros_0f7a4_70 rfl ?_
            refine G_iconst 2 dr_cJ6_numberOfTrailingZeros_0f7a4_71 (by decide +kernel) ?_
            refine G_iushr dr_cJ6_numberOfTrailingZeros_0f7a4_72 (G_nam fun z2189 hz2189 => ?_)
            have bz2189 : gB z2189 (-2147483648) 2147483647 := gB_any z2189
            refine G_istore_n (L' := [(0, .int z2189), (1, .int 19)]) dr_cJ6_numberOfTrailingZeros_0f7a4_73 (Nat.le_of_ble_eq_true rfl) rfl ?_
            refine G_iload_n 1 dr_cJ6_numberOfTrailingZeros_0f7a4_74 rfl ?_
            refine G_iload_n 0 dr_cJ6_numberOfTrailingZeros_0f7a4_75 rfl ?_
            refine G_iconst 1 dr_cJ6_numberOfTrailingZeros_0f7a4_76 (by decide +kernel) ?_
            refine G_iushr dr_cJ6_numberOfTrailingZeros_0f7a4_77 (G_nam fun z2190 hz2190 => ?_)
            have bz2190 : gB z2190 (-2147483648) 2147483647 := gB_any z2190
            refine G_iadd dr_cJ6_numberOfTrailingZeros_0f7a4_78 (G_nam fun z2191 hz2191 => ?_)
            have bz2191 : gB z2191 (-2147483648) 2147483647 := gB_any z2191
            exact G_iretA dr_cJ6_numberOfTrailingZeros_0f7a4_79 rfl (Nat.le_of_ble_eq_true rfl) (Nat.le_of_ble_eq_true rfl) ⟨z2191, rfl, rfl, (Nat.le_of_ble_eq_true rfl), (Nat.le_of_ble_eq_true rfl), (fun R c1 c2 c3 c4 c5 c6 c7 c8 c9 c10 c11 c12 c13 c14 c15 c16 c17 => c10 z2127 z2128 z2129 z2179 z2189 z2190 z2191 hz2127 hz2128 hz2129 r2131 r2178 hz2179 r2181 r2183 r2188 hz2189 hz2190 hz2191)⟩
        · have r2192 : 16 < z2179.toInt := gj_nle hc2182 (show Int32.toInt 16 = 16 by decide)
          have bz2179'' : gB z2179 17 256 := ⟨by omega, by omega⟩
          refine G_iinc (L' := [(1, .int 21), (0, .int z2179)]) (21) 1 dr_cJ6_numberOfTrailingZeros_0f7a4_55 rfl (by decide) (Nat.le_of_ble_eq_true rfl) rfl ?_
          refine G_iload_n 1 dr_cJ6_numberOfTrailingZeros_0f7a4_58 rfl ?_
          refine G_iconst 4 dr_cJ6_numberOfTrailingZeros_0f7a4_59 (by decide +kernel) ?_
          refine G_iushr dr_cJ6_numberOfTrailingZeros_0f7a4_60 (G_nam fun z2193 hz2193 => ?_)
          have bz2193 : gB z2193 (-2147483648) 2147483647 := gB_any z2193
          refine G_istore_n (L' := [(0, .int z2193), (1, .int 21)]) dr_cJ6_numberOfTrailingZeros_0f7a4_61 (Nat.le_of_ble_eq_true rfl) rfl ?_
          refine G_iload_n 0 dr_cJ6_numberOfTrailingZeros_0f7a4_62 rfl ?_
          refine G_iconst 4 dr_cJ6_numberOfTrailingZeros_0f7a4_63 (by decide +kernel) ?_
          refine G_icmp_le 74 dr_cJ6_numberOfTrailingZeros_0f7a4_64 (by decide +kernel) (fun hc2194 => ?_) (fun hc2194 => ?_)
          · have r2195 : z2193.toInt ≤ 4 := gj_le hc2194 (show Int32.toInt 4 = 4 by decide)
            have bz2193' : gB z2193 (-2147483648) 4 := ⟨by omega, by omega⟩
            refine G_iload_n 1 dr_cJ6_numberOfTrailingZeros_0f7a4_74 rfl ?_
            refine G_iload_n 0 dr_cJ6_numberOfTrailingZeros_0f7a4_75 rfl ?_
            refine G_iconst 1 dr_cJ6_numberOfTrailingZeros_0f7a4_76 (by decide +kernel) ?_
            refine G_iushr dr_cJ6_numberOfTrailingZeros_0f7a4_77 (G_nam fun z2196 hz2196 => ?_)
            have bz2196 : gB z2196 (-2147483648) 2147483647 := gB_any z2196
            refine G_iadd dr_cJ6_numberOfTrailingZeros_0f7a4_78 (G_nam fun z2197 hz2197 => ?_)
            have bz2197 : gB z2197 (-2147483648) 2147483647 := gB_any z2197
            exact G_iretA dr_cJ6_numberOfTrailingZeros_0f7a4_79 rfl (Nat.le_of_ble_eq_true rfl) (Nat.le_of_ble_eq_true rfl) ⟨z2197, rfl, rfl, (Nat.le_of_ble_eq_true rfl), (Nat.le_of_ble_eq_true rfl), (fun R c1 c2 c3 c4 c5 c6 c7 c8 c9 c10 c11 c12 c13 c14 c15 c16 c17 => c11 z2127 z2128 z2129 z2179 z2193 z2196 z2197 hz2127 hz2128 hz2129 r2131 r2178 hz2179 r2181 r2192 hz2193 r2195 hz2196 hz2197)⟩
          · have r2198 : 4 < z2193.toInt := gj_nle hc2194 (show Int32.toInt 4 = 4 by decide)
            have bz2193' : gB z2193 5 2147483647 := ⟨by omega, by omega⟩
            refine G_iinc (L' := [(1, .int 23), (0, .int z2193)]) (23) 1 dr_cJ6_numberOfTrailingZeros_0f7a4_67 rfl (by decide) (Nat.le_of_ble_eq_true rfl) rfl ?_
            refine G_iload_n 1 dr_cJ6_numberOfTrailingZeros_0f7a4_70 rfl ?_
            refine G_iconst 2 dr_cJ6_numberOfTrailingZeros_0f7a4_71 (by decide +kernel) ?_
            refine G_iushr dr_cJ6_numberOfTrailingZeros_0f7a4_72 (G_nam fun z2199 hz2199 => ?_)
            have bz2199 : gB z2199 (-2147483648) 2147483647 := gB_any z2199
            refine G_istore_n (L' := [(0, .int z2199), (1, .int 23)]) dr_cJ6_numberOfTrailingZeros_0f7a4_73 (Nat.le_of_ble_eq_true rfl) rfl ?_
            refine G_iload_n 1 dr_cJ6_numberOfTrailingZeros_0f7a4_74 rfl ?_
            refine G_iload_n 0 dr_cJ6_numberOfTrailingZeros_0f7a4_75 rfl ?_
            refine G_iconst 1 dr_cJ6_numberOfTrailingZeros_0f7a4_76 (by decide +kernel) ?_
            refine G_iushr dr_cJ6_numberOfTrailingZeros_0f7a4_77 (G_nam fun z2200 hz2200 => ?_)
            have bz2200 : gB z2200 (-2147483648) 2147483647 := gB_any z2200
            refine G_iadd dr_cJ6_numberOfTrailingZeros_0f7a4_78 (G_nam fun z2201 hz2201 => ?_)
            have bz2201 : gB z2201 (-2147483648) 2147483647 := gB_any z2201
            exact G_iretA dr_cJ6_numberOfTrailingZeros_0f7a4_79 rfl (Nat.le_of_ble_eq_true rfl) (Nat.le_of_ble_eq_true rfl) ⟨z2201, rfl, rfl, (Nat.le_of_ble_eq_true rfl), (Nat.le_of_ble_eq_true rfl), (fun R c1 c2 c3 c4 c5 c6 c7 c8 c9 c10 c11 c12 c13 c14 c15 c16 c17 => c12 z2127 z2128 z2129 z2179 z2193 z2199 z2200 z2201 hz2127 hz2128 hz2129 r2131 r2178 hz2179 r2181 r2192 hz2193 r2198 hz2199 hz2200 hz2201)⟩
      · have r2202 : 256 < z2179.toInt := gj_nle hc2180 (show Int32.toInt 256 = 256 by decide)
        have bz2179' : gB z2179 257 2147483647 := ⟨by omega, by omega⟩
        refine G_iinc (L' := [(1, .int 25), (0, .int z2179)]) (25) 1 dr_cJ6_numberOfTrailingZeros_0f7a4_41 rfl (by decide) (Nat.le_of_ble_eq_true rfl) rfl ?_
        refine G_iload_n 1 dr_cJ6_numberOfTrailingZeros_0f7a4_44 rfl ?_
        refine G_bipush 8 dr_cJ6_numberOfTrailingZeros_0f7a4_45 (by decide +kernel) ?_
        refine G_iushr dr_cJ6_numberOfTrailingZeros_0f7a4_47 (G_nam fun z2203 hz2203 => ?_)
        have bz2203 : gB z2203 (-2147483648) 2147483647 := gB_any z2203
        refine G_istore_n (L' := [(0, .int z2203), (1, .int 25)]) dr_cJ6_numberOfTrailingZeros_0f7a4_48 (Nat.le_of_ble_eq_true rfl) rfl ?_
        refine G_iload_n 0 dr_cJ6_numberOfTrailingZeros_0f7a4_49 rfl ?_
        refine G_bipush 16 dr_cJ6_numberOfTrailingZeros_0f7a4_50 (by decide +kernel) ?_
        refine G_icmp_le 62 dr_cJ6_numberOfTrailingZeros_0f7a4_52 (by decide +kernel) (fun hc2204 => ?_) (fun hc2204 => ?_)
        · have r2205 : z2203.toInt ≤ 16 := gj_le hc2204 (show Int32.toInt 16 = 16 by decide)
          have bz2203' : gB z2203 (-2147483648) 16 := ⟨by omega, by omega⟩
          refine G_iload_n 0 dr_cJ6_numberOfTrailingZeros_0f7a4_62 rfl ?_
          refine G_iconst 4 dr_cJ6_numberOfTrailingZeros_0f7a4_63 (by decide +kernel) ?_
          refine G_icmp_le 74 dr_cJ6_numberOfTrailingZeros_0f7a4_64 (by decide +kernel) (fun hc2206 => ?_) (fun hc2206 => ?_)
          · have r2207 : z2203.toInt ≤ 4 := gj_le hc2206 (show Int32.toInt 4 = 4 by decide)
            have bz2203'' : gB z2203 (-2147483648) 4 := ⟨by omega, by omega⟩
            refine G_iload_n 1 dr_cJ6_numberOfTrailingZeros_0f7a4_74 rfl ?_
            refine G_iload_n 0 dr_cJ6_numberOfTrailingZeros_0f7a4_75 rfl ?_
            refine G_iconst 1 dr_cJ6_numberOfTrailingZeros_0f7a4_76 (by decide +kernel) ?_
            refine G_iushr dr_cJ6_numberOfTrailingZeros_0f7a4_77 (G_nam fun z2208 hz2208 => ?_)
            have bz2208 : gB z2208 (-2147483648) 2147483647 := gB_any z2208
            refine G_iadd dr_cJ6_numberOfTrailingZeros_0f7a4_78 (G_nam fun z2209 hz2209 => ?_)
            have bz2209 : gB z2209 (-2147483648) 2147483647 := gB_any z2209
            exact G_iretA dr_cJ6_numberOfTrailingZeros_0f7a4_79 rfl (Nat.le_of_ble_eq_true rfl) (Nat.le_of_ble_eq_true rfl) ⟨z2209, rfl, rfl, (Nat.le_of_ble_eq_true rfl), (Nat.le_of_ble_eq_true rfl), (fun R c1 c2 c3 c4 c5 c6 c7 c8 c9 c10 c11 c12 c13 c14 c15 c16 c17 => c13 z2127 z2128 z2129 z2179 z2203 z2208 z2209 hz2127 hz2128 hz2129 r2131 r2178 hz2179 r2202 hz2203 r2205 r2207 hz2208 hz2209)⟩
          · have r2210 : 4 < z2203.toInt := gj_nle hc2206 (show Int32.toInt 4 = 4 by decide)
            have bz2203'' : gB z2203 5 16 := ⟨by omega, by omega⟩
            refine G_iinc (L' := [(1, .int 27), (0, .int z2203)]) (27) 1 dr_cJ6_numberOfTrailingZeros_0f7a4_67 rfl (by decide) (Nat.le_of_ble_eq_true rfl) rfl ?_
            refine G_iload_n 1 dr_cJ6_numberOfTrailingZeros_0f7a4_70 rfl ?_
            refine G_iconst 2 dr_cJ6_numberOfTrailingZeros_0f7a4_71 (by decide +kernel) ?_
            refine G_iushr dr_cJ6_numberOfTrailingZeros_0f7a4_72 (G_nam fun z2211 hz2211 => ?_)
            have bz2211 : gB z2211 (-2147483648) 2147483647 := gB_any z2211
            refine G_istore_n (L' := [(0, .int z2211), (1, .int 27)]) dr_cJ6_numberOfTrailingZeros_0f7a4_73 (Nat.le_of_ble_eq_true rfl) rfl ?_
            refine G_iload_n 1 dr_cJ6_numberOfTrailingZeros_0f7a4_74 rfl ?_
            refine G_iload_n 0 dr_cJ6_numberOfTrailingZeros_0f7a4_75 rfl ?_
            refine G_iconst 1 dr_cJ6_numberOfTrailingZeros_0f7a4_76 (by decide +kernel) ?_
            refine G_iushr dr_cJ6_numberOfTrailingZeros_0f7a4_77 (G_nam fun z2212 hz2212 => ?_)
            have bz2212 : gB z2212 (-2147483648) 2147483647 := gB_any z2212
            refine G_iadd dr_cJ6_numberOfTrailingZeros_0f7a4_78 (G_nam fun z2213 hz2213 => ?_)
            have bz2213 : gB z2213 (-2147483648) 2147483647 := gB_any z2213
            exact G_iretA dr_cJ6_numberOfTrailingZeros_0f7a4_79 rfl (Nat.le_of_ble_eq_true rfl) (Nat.le_of_ble_eq_true rfl) ⟨z2213, rfl, rfl, (Nat.le_of_ble_eq_true rfl), (Nat.le_of_ble_eq_true rfl), (fun R c1 c2 c3 c4 c5 c6 c7 c8 c9 c10 c11 c12 c13 c14 c15 c16 c17 => c14 z2127 z2128 z2129 z2179 z2203 z2211 z2212 z2213 hz2127 hz2128 hz2129 r2131 r2178 hz2179 r2202 hz2203 r2205 r2210 hz2211 hz2212 hz2213)⟩
        · have r2214 : 16 < z2203.toInt := gj_nle hc2204 (show Int32.toInt 16 = 16 by decide)
          have bz2203' : gB z2203 17 2147483647 := ⟨by omega, by omega⟩
          refine G_iinc (L' := [(1, .int 29), (0, .int z2203)]) (29) 1 dr_cJ6_numberOfTrailingZeros_0f7a4_55 rfl (by decide) (Nat.le_of_ble_eq_true rfl) rfl ?_
          refine G_iload_n 1 dr_cJ6_numberOfTrailingZeros_0f7a4_58 rfl ?_
          refine G_iconst 4 dr_cJ6_numberOfTrailingZeros_0f7a4_59 (by decide +kernel) ?_
          refine G_iushr dr_cJ6_numberOfTrailingZeros_0f7a4_60 (G_nam fun z2215 hz2215 => ?_)
          have bz2215 : gB z2215 (-2147483648) 2147483647 := gB_any z2215
          refine G_istore_n (L' := [(0, .int z2215), (1, .int 29)]) dr_cJ6_numberOfTrailingZeros_0f7a4_61 (Nat.le_of_ble_eq_true rfl) rfl ?_
          refine G_iload_n 0 dr_cJ6_numberOfTrailingZeros_0f7a4_62 rfl ?_
          refine G_iconst 4 dr_cJ6_numberOfTrailingZeros_0f7a4_63 (by decide +kernel) ?_
          refine G_icmp_le 74 dr_cJ6_numberOfTrailingZeros_0f7a4_64 (by decide +kernel) (fun hc2216 => ?_) (fun hc2216 => ?_)
          · have r2217 : z2215.toInt ≤ 4 := gj_le hc2216 (show Int32.toInt 4 = 4 by decide)
            have bz2215' : gB z2215 (-2147483648) 4 := ⟨by omega, by omega⟩
            refine G_iload_n 1 dr_cJ6_numberOfTrailingZeros_0f7a4_74 rfl ?_
            refine G_iload_n 0 dr_cJ6_numberOfTrailingZeros_0f7a4_75 rfl ?_
            refine G_iconst 1 dr_cJ6_numberOfTrailingZeros_0f7a4_76 (by decide +kernel) ?_
            refine G_iushr dr_cJ6_numberOfTrailingZeros_0f7a4_77 (G_nam fun z2218 hz2218 => ?_)
            have bz2218 : gB z2218 (-2147483648) 2147483647 := gB_any z2218
            refine G_iadd dr_cJ6_numberOfTrailingZeros_0f7a4_78 (G_nam fun z2219 hz2219 => ?_)
            have bz2219 : gB z2219 (-2147483648) 2147483647 := gB_any z2219
            exact G_iretA dr_cJ6_numberOfTrailingZeros_0f7a4_79 rfl (Nat.le_of_ble_eq_true rfl) (Nat.le_of_ble_eq_true rfl) ⟨z2219, rfl, rfl, (Nat.le_of_ble_eq_true rfl), (Nat.le_of_ble_eq_true rfl), (fun R c1 c2 c3 c4 c5 c6 c7 c8 c9 c10 c11 c12 c13 c14 c15 c16 c17 => c15 z2127 z2128 z2129 z2179 z2203 z2215 z2218 z2219 hz2127 hz2128 hz2129 r2131 r2178 hz2179 r2202 hz2203 r2214 hz2215 r2217 hz2218 hz2219)⟩
          · have r2220 : 4 < z2215.toInt := gj_nle hc2216 (show Int32.toInt 4 = 4 by decide)
            have bz2215' : gB z2215 5 2147483647 := ⟨by omega, by omega⟩
            refine G_iinc (L' := [(1, .int 31), (0, .int z2215)]) (31) 1 dr_cJ6_numberOfTrailingZeros_0f7a4_67 rfl (by decide) (Nat.le_of_ble_eq_true rfl) rfl ?_
            refine G_iload_n 1 dr_cJ6_numberOfTrailingZeros_0f7a4_70 rfl ?_
            refine G_iconst 2 dr_cJ6_numberOfTrailingZeros_0f7a4_71 (by decide +kernel) ?_
            refine G_iushr dr_cJ6_numberOfTrailingZeros_0f7a4_72 (G_nam fun z2221 hz2221 => ?_)
            have bz2221 : gB z2221 (-2147483648) 2147483647 := gB_any z2221
            refine G_istore_n (L' := [(0, .int z2221), (1, .int 31)]) dr_cJ6_numberOfTrailingZeros_0f7a4_73 (Nat.le_of_ble_eq_true rfl) rfl ?_
            refine G_iload_n 1 dr_cJ6_numberOfTrailingZeros_0f7a4_74 rfl ?_
            refine G_iload_n 0 dr_cJ6_numberOfTrailingZeros_0f7a4_75 rfl ?_
            refine G_iconst 1 dr_cJ6_numberOfTrailingZeros_0f7a4_76 (by decide +kernel) ?_
            refine G_iushr dr_cJ6_numberOfTrailingZeros_0f7a4_77 (G_nam fun z2222 hz2222 => ?_)
            have bz2222 : gB z2222 (-2147483648) 2147483647 := gB_any z2222
            refine G_iadd dr_cJ6_numberOfTrailingZeros_0f7a4_78 (G_nam fun z2223 hz2223 => ?_)
            have bz2223 : gB z2223 (-2147483648) 2147483647 := gB_any z2223
            exact G_iretA dr_cJ6_numberOfTrailingZeros_0f7a4_79 rfl (Nat.le_of_ble_eq_true rfl) (Nat.le_of_ble_eq_true rfl) ⟨z2223, rfl, rfl, (Nat.le_of_ble_eq_true rfl), (Nat.le_of_ble_eq_true rfl), (fun R c1 c2 c3 c4 c5 c6 c7 c8 c9 c10 c11 c12 c13 c14 c15 c16 c17 => c16 z2127 z2128 z2129 z2179 z2203 z2215 z2221 z2222 z2223 hz2127 hz2128 hz2129 r2131 r2178 hz2179 r2202 hz2203 r2214 hz2215 r2220 hz2221 hz2222 hz2223)⟩
  · have r2224 : z2129.toInt ≤ 0 := gj_nltL hc2130 (show Int32.toInt 0 = 0 by decide)
    have bz2129' : gB z2129 (-2147483648) 0 := ⟨by omega, by omega⟩
    refine G_iload_n 0 dr_cJ6_numberOfTrailingZeros_0f7a4_12 rfl ?_
    refine G_bipush 32 dr_cJ6_numberOfTrailingZeros_0f7a4_13 (by decide +kernel) ?_
    refine G_iand dr_cJ6_numberOfTrailingZeros_0f7a4_15 (G_nam fun z2225 hz2225 => ?_)
    have bz2225 : gB z2225 0 32 := gB_and hz2225 (gBl (show Int32.toInt 32 = 32 by decide)) (by decide)
    exact G_iretA dr_cJ6_numberOfTrailingZeros_0f7a4_16 rfl (Nat.le_of_ble_eq_true rfl) (Nat.le_of_ble_eq_true rfl) ⟨z2225, rfl, rfl, (Nat.le_of_ble_eq_true rfl), (Nat.le_of_ble_eq_true rfl), (fun R c1 c2 c3 c4 c5 c6 c7 c8 c9 c10 c11 c12 c13 c14 c15 c16 c17 => c17 z2127 z2128 z2129 z2225 hz2127 hz2128 hz2129 r2224 hz2225)⟩
/- tr_RLong_numberOfTrailingZeros: result -/
def tr_RLong_numberOfTrailingZeros (a0 : Int64) (o1 : Int32) : Prop := ∀ R : (Int32) → Prop,
  (∀ (x1 : Int32) (x2 : Int32), x1 = a0.toInt32 → x1.toInt ≠ 0 → tr_RInteger_numberOfTrailingZeros x1 x2 → R x2) →
  (∀ (x1 : Int32) (x2 : Int64) (x3 : Int32) (x4 : Int32) (x5 : Int32), x1 = a0.toInt32 → x1.toInt = 0 → x2 = (a0.toUInt64 >>> ((32 : Int32).toInt64.toUInt64 &&& Int64.toUInt64 63)).toInt64 → x3 = x2.toInt32 → tr_RInteger_numberOfTrailingZeros x3 x4 → x5 = (32 : Int32) + x4 → R x5) →
  R o1
