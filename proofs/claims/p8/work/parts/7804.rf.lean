theorem dr_cX17_next_0 : decode cX17_next 0 = .ok (.iconst 0, 1) := by decide +kernel
theorem dr_cX17_next_1 : decode cX17_next 1 = .ok (.istore_n 2, 1) := by decide +kernel
theorem dr_cX17_next_2 : decode cX17_next 2 = .ok (.iload_n 2, 1) := by decide +kernel
theorem dr_cX17_next_3 : decode cX17_next 3 = .ok (.sipush 2000, 3) := by decide +kernel
theorem dr_cX17_next_6 : decode cX17_next 6 = .ok (.if_icmp .ge 30, 3) := by decide +kernel
theorem dr_cX17_next_36 : decode cX17_next 36 = .ok (.iconst (-1), 1) := by decide +kernel
theorem dr_cX17_next_37 : decode cX17_next 37 = .ok (.istore_n 2, 1) := by decide +kernel
theorem dr_cX17_next_38 : decode cX17_next 38 = .ok (.iconst 0, 1) := by decide +kernel
theorem dr_cX17_next_39 : decode cX17_next 39 = .ok (.istore_n 3, 1) := by decide +kernel
theorem dr_cX17_next_40 : decode cX17_next 40 = .ok (.iload_n 3, 1) := by decide +kernel
theorem dr_cX17_next_41 : decode cX17_next 41 = .ok (.sipush 2000, 3) := by decide +kernel
theorem dr_cX17_next_44 : decode cX17_next 44 = .ok (.if_icmp .ge 127, 3) := by decide +kernel
theorem dr_cX17_next_171 : decode cX17_next 171 = .ok (.iload_n 2, 1) := by decide +kernel
theorem dr_cX17_next_172 : decode cX17_next 172 = .ok (.ireturn, 1) := by decide +kernel
theorem dr_cX17_next_47 : decode cX17_next 47 = .ok (.aload_n 0, 1) := by decide +kernel
theorem dr_cX17_next_48 : decode cX17_next 48 = .ok (.getfield 206, 3) := by decide +kernel
theorem wr_7_92 : (Jvm.Cond.fieldLink "SpillForgeModel" (206 : Nat) "SpillForgeModel" "there" "[Z") ∈ gw := gw_7 92 rfl rfl
theorem dr_cX17_next_51 : decode cX17_next 51 = .ok (.iload_n 3, 1) := by decide +kernel
theorem dr_cX17_next_52 : decode cX17_next 52 = .ok (.baload, 1) := by decide +kernel
theorem dr_cX17_next_53 : decode cX17_next 53 = .ok (.ifCond .ne 6, 3) := by decide +kernel
theorem dr_cX17_next_59 : decode cX17_next 59 = .ok (.iload_n 2, 1) := by decide +kernel
theorem dr_cX17_next_60 : decode cX17_next 60 = .ok (.ifCond .ge 8, 3) := by decide +kernel
theorem dr_cX17_next_68 : decode cX17_next 68 = .ok (.iload_n 3, 1) := by decide +kernel
theorem dr_cX17_next_69 : decode cX17_next 69 = .ok (.bipush 100, 2) := by decide +kernel
theorem dr_cX17_next_71 : decode cX17_next 71 = .ok (.if_icmp .lt 7, 3) := by decide +kernel
theorem dr_cX17_next_78 : decode cX17_next 78 = .ok (.iconst 0, 1) := by decide +kernel
theorem dr_cX17_next_79 : decode cX17_next 79 = .ok (.istore 4, 2) := by decide +kernel
theorem dr_cX17_next_81 : decode cX17_next 81 = .ok (.iload_n 2, 1) := by decide +kernel
theorem dr_cX17_next_82 : decode cX17_next 82 = .ok (.bipush 100, 2) := by decide +kernel
theorem dr_cX17_next_84 : decode cX17_next 84 = .ok (.if_icmp .lt 7, 3) := by decide +kernel
theorem dr_cX17_next_91 : decode cX17_next 91 = .ok (.iconst 0, 1) := by decide +kernel
theorem dr_cX17_next_92 : decode cX17_next 92 = .ok (.istore 5, 2) := by decide +kernel
theorem dr_cX17_next_94 : decode cX17_next 94 = .ok (.iload 4, 2) := by decide +kernel
theorem dr_cX17_next_96 : decode cX17_next 96 = .ok (.ifCond .eq 11, 3) := by decide +kernel
theorem dr_cX17_next_107 : decode cX17_next 107 = .ok (.aload_n 0, 1) := by decide +kernel
theorem dr_cX17_next_108 : decode cX17_next 108 = .ok (.getfield 174, 3) := by decide +kernel
theorem wr_7_79 : (Jvm.Cond.fieldLink "SpillForgeModel" (174 : Nat) "SpillForgeModel" "weight" "[I") ∈ gw := gw_7 79 rfl rfl
theorem dr_cX17_next_111 : decode cX17_next 111 = .ok (.iload_n 3, 1) := by decide +kernel
theorem dr_cX17_next_112 : decode cX17_next 112 = .ok (.iaload, 1) := by decide +kernel
theorem dr_cX17_next_113 : decode cX17_next 113 = .ok (.i2l, 1) := by decide +kernel
theorem dr_cX17_next_114 : decode cX17_next 114 = .ok (.aload_n 0, 1) := by decide +kernel
theorem dr_cX17_next_115 : decode cX17_next 115 = .ok (.getfield 209, 3) := by decide +kernel
theorem wr_7_90 : (Jvm.Cond.fieldLink "SpillForgeModel" (209 : Nat) "SpillForgeModel" "left" "[I") ∈ gw := gw_7 90 rfl rfl
theorem dr_cX17_next_118 : decode cX17_next 118 = .ok (.iload_n 2, 1) := by decide +kernel
theorem dr_cX17_next_119 : decode cX17_next 119 = .ok (.iaload, 1) := by decide +kernel
theorem dr_cX17_next_120 : decode cX17_next 120 = .ok (.i2l, 1) := by decide +kernel
theorem dr_cX17_next_121 : decode cX17_next 121 = .ok (.lmul, 1) := by decide +kernel
theorem dr_cX17_next_122 : decode cX17_next 122 = .ok (.aload_n 0, 1) := by decide +kernel
theorem dr_cX17_next_123 : decode cX17_next 123 = .ok (.getfield 174, 3) := by decide +kernel
theorem dr_cX17_next_126 : decode cX17_next 126 = .ok (.iload_n 2, 1) := by decide +kernel
theorem dr_cX17_next_127 : decode cX17_next 127 = .ok (.iaload, 1) := by decide +kernel
theorem dr_cX17_next_128 : decode cX17_next 128 = .ok (.i2l, 1) := by decide +kernel
theorem dr_cX17_next_129 : decode cX17_next 129 = .ok (.aload_n 0, 1) := by decide +kernel
theorem dr_cX17_next_130 : decode cX17_next 130 = .ok (.getfield 209, 3) := by decide +kernel
theorem dr_cX17_next_133 : decode cX17_next 133 = .ok (.iload_n 3, 1) := by decide +kernel
theorem dr_cX17_next_134 : decode cX17_next 134 = .ok (.iaload, 1) := by decide +kernel
theorem dr_cX17_next_135 : decode cX17_next 135 = .ok (.i2l, 1) := by decide +kernel
theorem dr_cX17_next_136 : decode cX17_next 136 = .ok (.lmul, 1) := by decide +kernel
theorem dr_cX17_next_137 : decode cX17_next 137 = .ok (.lcmp, 1) := by decide +kernel
theorem dr_cX17_next_138 : decode cX17_next 138 = .ok (.ifCond .ge 7, 3) := by decide +kernel
theorem dr_cX17_next_145 : decode cX17_next 145 = .ok (.iconst 0, 1) := by decide +kernel
theorem dr_cX17_next_146 : decode cX17_next 146 = .ok (.istore 6, 2) := by decide +kernel
theorem dr_cX17_next_148 : decode cX17_next 148 = .ok (.iload 4, 2) := by decide +kernel
theorem dr_cX17_next_150 : decode cX17_next 150 = .ok (.ifCond .ne 8, 3) := by decide +kernel
theorem dr_cX17_next_153 : decode cX17_next 153 = .ok (.iload 5, 2) := by decide +kernel
theorem dr_cX17_next_155 : decode cX17_next 155 = .ok (.ifCond .ne 8, 3) := by decide +kernel
theorem dr_cX17_next_158 : decode cX17_next 158 = .ok (.iload 6, 2) := by decide +kernel
theorem dr_cX17_next_160 : decode cX17_next 160 = .ok (.ifCond .eq 5, 3) := by decide +kernel
theorem dr_cX17_next_165 : decode cX17_next 165 = .ok (.iinc 3 1, 3) := by decide +kernel
theorem dr_cX17_next_168 : decode cX17_next 168 = .ok (.goto (-128), 3) := by decide +kernel
theorem dr_cX17_next_141 : decode cX17_next 141 = .ok (.iconst 1, 1) := by decide +kernel
theorem dr_cX17_next_142 : decode cX17_next 142 = .ok (.goto 4, 3) := by decide +kernel
theorem dr_cX17_next_163 : decode cX17_next 163 = .ok (.iload_n 3, 1) := by decide +kernel
theorem dr_cX17_next_164 : decode cX17_next 164 = .ok (.istore_n 2, 1) := by decide +kernel
theorem dr_cX17_next_87 : decode cX17_next 87 = .ok (.iconst 1, 1) := by decide +kernel
theorem dr_cX17_next_88 : decode cX17_next 88 = .ok (.goto 4, 3) := by decide +kernel
theorem dr_cX17_next_74 : decode cX17_next 74 = .ok (.iconst 1, 1) := by decide +kernel
theorem dr_cX17_next_75 : decode cX17_next 75 = .ok (.goto 4, 3) := by decide +kernel
theorem dr_cX17_next_99 : decode cX17_next 99 = .ok (.iload 5, 2) := by decide +kernel
theorem dr_cX17_next_101 : decode cX17_next 101 = .ok (.ifCond .ne 6, 3) := by decide +kernel
theorem dr_cX17_next_104 : decode cX17_next 104 = .ok (.goto 61, 3) := by decide +kernel
theorem dr_cX17_next_63 : decode cX17_next 63 = .ok (.iload_n 3, 1) := by decide +kernel
theorem dr_cX17_next_64 : decode cX17_next 64 = .ok (.istore_n 2, 1) := by decide +kernel
theorem dr_cX17_next_65 : decode cX17_next 65 = .ok (.goto 100, 3) := by decide +kernel
theorem dr_cX17_next_56 : decode cX17_next 56 = .ok (.goto 109, 3) := by decide +kernel
theorem dr_cX17_next_9 : decode cX17_next 9 = .ok (.aload_n 0, 1) := by decide +kernel
theorem dr_cX17_next_10 : decode cX17_next 10 = .ok (.getfield 206, 3) := by decide +kernel
theorem dr_cX17_next_13 : decode cX17_next 13 = .ok (.iload_n 2, 1) := by decide +kernel
theorem dr_cX17_next_14 : decode cX17_next 14 = .ok (.baload, 1) := by decide +kernel
theorem dr_cX17_next_15 : decode cX17_next 15 = .ok (.ifCond .eq 15, 3) := by decide +kernel
theorem dr_cX17_next_30 : decode cX17_next 30 = .ok (.iinc 2 1, 3) := by decide +kernel
theorem dr_cX17_next_33 : decode cX17_next 33 = .ok (.goto (-31), 3) := by decide +kernel
theorem dr_cX17_next_18 : decode cX17_next 18 = .ok (.aload_n 0, 1) := by decide +kernel
theorem dr_cX17_next_19 : decode cX17_next 19 = .ok (.getfield 209, 3) := by decide +kernel
theorem dr_cX17_next_22 : decode cX17_next 22 = .ok (.iload_n 2, 1) := by decide +kernel
theorem dr_cX17_next_23 : decode cX17_next 23 = .ok (.iaload, 1) := by decide +kernel
theorem dr_cX17_next_24 : decode cX17_next 24 = .ok (.iload_n 1, 1) := by decide +kernel
theorem dr_cX17_next_25 : decode cX17_next 25 = .ok (.if_icmp .ge 5, 3) := by decide +kernel
theorem dr_cX17_next_28 : decode cX17_next 28 = .ok (.iload_n 2, 1) := by decide +kernel
theorem dr_cX17_next_29 : decode cX17_next 29 = .ok (.ireturn, 1) := by decide +kernel
/- tl_RModel_findDepth_342: F, l4; out: F -/
def tl_RModel_findDepth_342 (D : va_G) (I : FieldType → ClassId) (γ el : Nat → Nat → Nat) (P : List Nat) (F : Nat → va_E) (q1 : Nat) (q0 : Nat) (s1 : Nat → va_E) (s2 : Int32) (k : Nat) (e1 : Nat → va_E) : Prop := ∀ R : (Nat → va_E) → (Int32) → Nat → (Nat → va_E) → Prop,
  (∀ (F_1 : Nat → va_E) (l4_1 : Int32) (x1 : Int32), gB l4_1 0 1000000 → RS D I P F_1 γ el → rStr γ [] F F_1 → fI (F_1 q1) 3 = x1 → x1.toInt ≤ l4_1.toInt → R F_1 l4_1 375 F_1) →
  (∀ (F_1 : Nat → va_E) (l4_1 : Int32) (x1 : Int32) (x2 : Nat → Int32) (x3 : Int32) (x4 : Int32) (x5 : Nat → Int32) (x6 : Nat → va_E) (x7 : Int32) (k : Nat) (e1 : Nat → va_E), gB l4_1 0 1000000 → RS D I P F_1 γ el → rStr γ [] F F_1 → fI (F_1 q1) 3 = x1 → l4_1.toInt < x1.toInt → fR (F_1 q0) 4 = (γ 9 4) → F_1 (γ 9 4) = .inl (I .int, 40, .inl x2) → x3 = x2 l4_1.toNatClampNeg → (x3.toInt ≥ x4.toInt ∧ 4 ≥ x4.toInt ∧ (x4.toInt = x3.toInt ∨ x4.toInt = 4)) → x5 = upd x2 l4_1.toNatClampNeg x4 → (∀ b, b ≠ (γ 9 4) → x6 b = F_1 b) → x6 (γ 9 4) = .inl (I .int, 40, .inl x5) → x7.toInt = l4_1.toInt + 1 → R x6 x7 k e1 → R F_1 l4_1 k e1) →
  R s1 s2 k e1
/- tl_RModel_findDepth_300: F, l10; out: F -/
def tl_RModel_findDepth_300 (D : va_G) (I : FieldType → ClassId) (γ el : Nat → Nat → Nat) (P : List Nat) (F : Nat → va_E) (q1 : Nat) (q0 : Nat) (l7_2 : Int64) (s1 : Nat → va_E) (s2 : Int32) (k : Nat) (e1 : Nat → va_E) : Prop := ∀ R : (Nat → va_E) → (Int32) → Nat → (Nat → va_E) → Prop,
  (∀ (F_2 : Nat → va_E) (l10_2 : Int32) (x1 : Int32), gB l10_2 0 1000000 → RS D I P F_2 γ el → rStr γ [] F F_2 → fI (F_2 q1) 3 = x1 → x1.toInt ≤ l10_2.toInt → R F_2 l10_2 333 F_2) →
  (∀ (F_2 : Nat → va_E) (l10_2 : Int32) (x1 : Int32) (x2 : Nat → Int32) (x3 : Int32) (x4 : Int64) (x5 : Int64) (x6 : Int32) (x7 : Int32) (x8 : Nat → Int32) (x9 : Nat → va_E) (x10 : Int32) (k : Nat) (e1 : Nat → va_E), gB l10_2 0 1000000 → RS D I P F_2 γ el → rStr γ [] F F_2 → fI (F_2 q1) 3 = x1 → l10_2.toInt < x1.toInt → fR (F_2 q0) 4 = (γ 9 4) → F_2 (γ 9 4) = .inl (I .int, 40, .inl x2) → x3 = x2 l10_2.toNatClampNeg → x4 = (l7_2.toUInt64 >>> (l10_2.toInt64.toUInt64 &&& Int64.toUInt64 63)).toInt64 → x5 = x4 &&& (1 : Int64) → x6 = x5.toInt32 → x7 = x3 + x6 → x8 = upd x2 l10_2.toNatClampNeg x7 → (∀ b, b ≠ (γ 9 4) → x9 b = F_2 b) → x9 (γ 9 4) = .inl (I .int, 40, .inl x8) → x10.toInt = l10_2.toInt + 1 → R x9 x10 k e1 → R F_2 l10_2 k e1) →
  R s1 s2 k e1
/- tl_RModel_findDepth_199: l12, l11; out: l11 -/
def tl_RModel_findDepth_199 (D : va_G) (I : FieldType → ClassId) (γ el : Nat → Nat → Nat) (F_1 : Nat → va_E) (q1 : Nat) (l10_3 : Int32) (l4_1 : Int32) (l7_3 : Int64) (s1 : Int32) (s2 : Int32) (k : Nat) (e1 : Int32) : Prop := ∀ R : (Int32) → (Int32) → Nat → (Int32) → Prop,
  (∀ (l12_4 : Int32) (l11_4 : Int32) (x1 : Nat) (x2 : Nat) (x3 : Int32) (x4 : Int32) (x5 : Int32) (x6 : Nat) (x7 : Int32) (x8 : Int32), gB l12_4 0 2 → gB l11_4 0 1 → fR (F_1 q1) 0 = x1 → x2 = el x1 l10_3.toInt.toNat → fI (F_1 x1) 2 = x3 → tr_RCode_get l10_3 x3 → fI (F_1 x2) 2 = x4 → fI (F_1 x2) 3 = x5 → fR (F_1 x2) 1 = x6 → fI (F_1 x6) 0 = x7 → gB x8 0 2 → tr_RBlock_ways x4 x5 x7 x8 → x8.toInt ≤ l12_4.toInt → R l12_4 l11_4 268 l11_4) →
  (∀ (l12_4 : Int32) (l11_4 : Int32) (x1 : Nat) (x2 : Nat) (x3 : Int32) (x4 : Int32) (x5 : Int32) (x6 : Nat) (x7 : Int32) (x8 : Int32) (x9 : Int32) (k : Nat) (e1 : Int32), gB l12_4 0 2 → gB l11_4 0 1 → fR (F_1 q1) 0 = x1 → x2 = el x1 l10_3.toInt.toNat → fI (F_1 x1) 2 = x3 → tr_RCode_get l10_3 x3 → fI (F_1 x2) 2 = x4 → fI (F_1 x2) 3 = x5 → fR (F_1 x2) 1 = x6 → fI (F_1 x6) 0 = x7 → gB x8 0 2 → tr_RBlock_ways x4 x5 x7 x8 → l12_4.toInt < x8.toInt → l11_4.toInt ≠ 0 → x9.toInt = l12_4.toInt + 1 → R x9 (1 : Int32) k e1 → R l12_4 l11_4 k e1) →
  (∀ (l12_4 : Int32) (l11_4 : Int32) (x1 : Nat) (x2 : Nat) (x3 : Int32) (x4 : Int32) (x5 : Int32) (x6 : Nat) (x7 : Int32) (x8 : Int32) (x9 : Int32) (x10 : Int32) (k : Nat) (e1 : Int32), gB l12_4 0 2 → gB l11_4 0 1 → fR (F_1 q1) 0 = x1 → x2 = el x1 l10_3.toInt.toNat → fI (F_1 x1) 2 = x3 → tr_RCode_get l10_3 x3 → fI (F_1 x2) 2 = x4 → fI (F_1 x2) 3 = x5 → fR (F_1 x2) 1 = x6 → fI (F_1 x6) 0 = x7 → gB x8 0 2 → tr_RBlock_ways x4 x5 x7 x8 → l12_4.toInt < x8.toInt → l11_4.toInt = 0 → tr_RCode_get l10_3 x3 → gB x9 0 39 → tr_RBlock_way2 l12_4 x4 x5 x9 → x9.toInt = l4_1.toInt → x10.toInt = l12_4.toInt + 1 → R x10 (0 : Int32) k e1 → R l12_4 l11_4 k e1) →
  (∀ (l12_4 : Int32) (l11_4 : Int32) (x1 : Nat) (x2 : Nat) (x3 : Int32) (x4 : Int32) (x5 : Int32) (x6 : Nat) (x7 : Int32) (x8 : Int32) (x9 : Int32) (x10 : Int32) (x11 : Int64) (x12 : Int64) (x13 : Int32) (k : Nat) (e1 : Int32), gB l12_4 0 2 → gB l11_4 0 1 → fR (F_1 q1) 0 = x1 → x2 = el x1 l10_3.toInt.toNat → fI (F_1 x1) 2 = x3 → tr_RCode_get l10_3 x3 → fI (F_1 x2) 2 = x4 → fI (F_1 x2) 3 = x5 → fR (F_1 x2) 1 = x6 → fI (F_1 x6) 0 = x7 → gB x8 0 2 → tr_RBlock_ways x4 x5 x7 x8 → l12_4.toInt < x8.toInt → l11_4.toInt = 0 → tr_RCode_get l10_3 x3 → gB x9 0 39 → tr_RBlock_way2 l12_4 x4 x5 x9 → x9.toInt ≠ l4_1.toInt → tr_RCode_get l10_3 x3 → gB x10 0 39 → tr_RBlock_way2 l12_4 x4 x5 x10 → x11 = (l7_3.toUInt64 >>> (x10.toInt64.toUInt64 &&& Int64.toUInt64 63)).toInt64 → x12 = x11 &&& (1 : Int64) → x12 = (0 : Int64) → x13.toInt = l12_4.toInt + 1 → R x13 (0 : Int32) k e1 → R l12_4 l11_4 k e1) →
  (∀ (l12_4 : Int32) (l11_4 : Int32) (x1 : Nat) (x2 : Nat) (x3 : Int32) (x4 : Int32) (x5 : Int32) (x6 : Nat) (x7 : Int32) (x8 : Int32) (x9 : Int32) (x10 : Int32) (x11 : Int64) (x12 : Int64) (x13 : Int32) (k : Nat) (e1 : Int32), gB l12_4 0 2 → gB l11_4 0 1 → fR (F_1 q1) 0 = x1 → x2 = el x1 l10_3.toInt.toNat → fI (F_1 x1) 2 = x3 → tr_RCode_get l10_3 x3 → fI (F_1 x2) 2 = x4 → fI (F_1 x2) 3 = x5 → fR (F_1 x2) 1 = x6 → fI (F_1 x6) 0 = x7 → gB x8 0 2 → tr_RBlock_ways x4 x5 x7 x8 → l12_4.toInt < x8.toInt → l11_4.toInt = 0 → tr_RCode_get l10_3 x3 → gB x9 0 39 → tr_RBlock_way2 l12_4 x4 x5 x9 → x9.toInt ≠ l4_1.toInt → tr_RCode_get l10_3 x3 → gB x10 0 39 → tr_RBlock_way2 l12_4 x4 x5 x10 → x11 = (l7_3.toUInt64 >>> (x10.toInt64.toUInt64 &&& Int64.toUInt64 63)).toInt64 → x12 = x11 &&& (1 : Int64) → (¬ x12 = (0 : Int64)) → x13.toInt = l12_4.toInt + 1 → R x13 (1 : Int32) k e1 → R l12_4 l11_4 k e1) →
  R s1 s2 k e1
/- tl_RModel_findDepth_158: l10, l9, l7; out: l9, l7 -/
def tl_RModel_findDepth_158 (D : va_G) (I : FieldType → ClassId) (γ el : Nat → Nat → Nat) (l7_2 : Int64) (F_1 : Nat → va_E) (q1 : Nat) (c1 : Int64) (l4_1 : Int32) (s1 : Int32) (s2 : Int32) (s3 : Int64) (k : Nat) (e1 : Int32) (e2 : Int64) : Prop := ∀ R : (Int32) → (Int32) → (Int64) → Nat → (Int32) → (Int64) → Prop,
  (∀ (l10_3 : Int32) (l9_3 : Int32) (l7_3 : Int64) (x1 : Int32), gB l10_3 0 1000000 → gB l9_3 0 1 → rpop l7_3 ≤ 64 → rpop l7_2 + ((l9_3.toInt : Int)).toNat ≤ rpop l7_3 → fI (F_1 q1) 3 = x1 → x1.toInt ≤ l10_3.toInt → R l10_3 l9_3 l7_3 294 l9_3 l7_3) →
  (∀ (l10_3 : Int32) (l9_3 : Int32) (l7_3 : Int64) (x1 : Int32) (x2 : Int64) (x3 : Int64) (x4 : Int32) (k : Nat) (e1 : Int32) (e2 : Int64), gB l10_3 0 1000000 → gB l9_3 0 1 → rpop l7_3 ≤ 64 → rpop l7_2 + ((l9_3.toInt : Int)).toNat ≤ rpop l7_3 → fI (F_1 q1) 3 = x1 → l10_3.toInt < x1.toInt → x2 = (l7_3.toUInt64 >>> (l10_3.toInt64.toUInt64 &&& Int64.toUInt64 63)).toInt64 → x3 = x2 &&& (1 : Int64) → (¬ x3 = (0 : Int64)) → x4.toInt = l10_3.toInt + 1 → R x4 l9_3 l7_3 k e1 e2 → R l10_3 l9_3 l7_3 k e1 e2) →
  (∀ (l10_3 : Int32) (l9_3 : Int32) (l7_3 : Int64) (x1 : Int32) (x2 : Int64) (x3 : Int64) (x4 : Int64) (x5 : Int64) (x6 : Int32) (x7 : Int64) (x8 : Int64) (x9 : Int32) (k : Nat) (e1 : Int32) (e2 : Int64), gB l10_3 0 1000000 → gB l9_3 0 1 → rpop l7_3 ≤ 64 → rpop l7_2 + ((l9_3.toInt : Int)).toNat ≤ rpop l7_3 → fI (F_1 q1) 3 = x1 → l10_3.toInt < x1.toInt → x2 = (l7_3.toUInt64 >>> (l10_3.toInt64.toUInt64 &&& Int64.toUInt64 63)).toInt64 → x3 = x2 &&& (1 : Int64) → x3 = (0 : Int64) → x4 = (c1.toUInt64 >>> (l10_3.toInt64.toUInt64 &&& Int64.toUInt64 63)).toInt64 → x5 = x4 &&& (1 : Int64) → (¬ x5 = (0 : Int64)) → tl_RModel_findDepth_199 D I γ el F_1 q1 l10_3 l4_1 l7_3 (0 : Int32) (0 : Int32) 268 x6 → x6.toInt ≠ 0 → x7 = (1 : Int64) <<< (l10_3.toInt64 &&& 63) → x8 = l7_3 ||| x7 → x9.toInt = l10_3.toInt + 1 → R x9 (1 : Int32) x8 k e1 e2 → R l10_3 l9_3 l7_3 k e1 e2) →
  (∀ (l10_3 : Int32) (l9_3 : Int32) (l7_3 : Int64) (x1 : Int32) (x2 : Int64) (x3 : Int64) (x4 : Int64) (x5 : Int64) (x6 : Int32) (x7 : Int32) (k : Nat) (e1 : Int32) (e2 : Int64), gB l10_3 0 1000000 → gB l9_3 0 1 → rpop l7_3 ≤ 64 → rpop l7_2 + ((l9_3.toInt : Int)).toNat ≤ rpop l7_3 → fI (F_1 q1) 3 = x1 → l10_3.toInt < x1.toInt → x2 = (l7_3.toUInt64 >>> (l10_3.toInt64.toUInt64 &&& Int64.toUInt64 63)).toInt64 → x3 = x2 &&& (1 : Int64) → x3 = (0 : Int64) → x4 = (c1.toUInt64 >>> (l10_3.toInt64.toUInt64 &&& Int64.toUInt64 63)).toInt64 → x5 = x4 &&& (1 : Int64) → (¬ x5 = (0 : Int64)) → tl_RModel_findDepth_199 D I γ el F_1 q1 l10_3 l4_1 l7_3 (0 : Int32) (0 : Int32) 268 x6 → x6.toInt = 0 → x7.toInt = l10_3.toInt + 1 → R x7 l9_3 l7_3 k e1 e2 → R l10_3 l9_3 l7_3 k e1 e2) →
  (∀ (l10_3 : Int32) (l9_3 : Int32) (l7_3 : Int64) (x1 : Int32) (x2 : Int64) (x3 : Int64) (x4 : Int64) (x5 : Int64) (x6 : Int32) (k : Nat) (e1 : Int32) (e2 : Int64), gB l10_3 0 1000000 → gB l9_3 0 1 → rpop l7_3 ≤ 64 → rpop l7_2 + ((l9_3.toInt : Int)).toNat ≤ rpop l7_3 → fI (F_1 q1) 3 = x1 → l10_3.toInt < x1.toInt → x2 = (l7_3.toUInt64 >>> (l10_3.toInt64.toUInt64 &&& Int64.toUInt64 63)).toInt64 → x3 = x2 &&& (1 : Int64) → x3 = (0 : Int64) → x4 = (c1.toUInt64 >>> (l10_3.toInt64.toUInt64 &&& Int64.toUInt64 63)).toInt64 → x5 = x4 &&& (1 : Int64) → x5 = (0 : Int64) → x6.toInt = l10_3.toInt + 1 → R x6 l9_3 l7_3 k e1 e2 → R l10_3 l9_3 l7_3 k e1 e2) →
  R s1 s2 s3 k e1 e2
/- tl_RModel_findDepth_147: l9, l7; out: l7 -/
def tl_RModel_findDepth_147 (D : va_G) (I : FieldType → ClassId) (γ el : Nat → Nat → Nat) (F_1 : Nat → va_E) (q1 : Nat) (c1 : Int64) (l4_1 : Int32) (s1 : Int32) (s2 : Int64) (k : Nat) (e1 : Int64) : Prop := ∀ R : (Int32) → (Int64) → Nat → (Int64) → Prop,
  (∀ (l9_2 : Int32) (l7_2 : Int64), gB l9_2 0 1 → rpop l7_2 ≤ 64 → l9_2.toInt = 0 → R l9_2 l7_2 297 l7_2) →
  (∀ (l9_2 : Int32) (l7_2 : Int64) (x1 : Int32) (x2 : Int64) (k : Nat) (e1 : Int64), gB l9_2 0 1 → rpop l7_2 ≤ 64 → l9_2.toInt ≠ 0 → tl_RModel_findDepth_158 D I γ el l7_2 F_1 q1 c1 l4_1 (0 : Int32) (0 : Int32) l7_2 294 x1 x2 → R x1 x2 k e1 → R l9_2 l7_2 k e1) →
  R s1 s2 k e1
/- tl_RModel_findDepth_75: l9, l7; out: l7 -/
def tl_RModel_findDepth_75 (D : va_G) (I : FieldType → ClassId) (γ el : Nat → Nat → Nat) (F_1 : Nat → va_E) (q1 : Nat) (c1 : Int64) (l4_1 : Int32) (s1 : Int32) (s2 : Int64) (k : Nat) (e1 : Int64) : Prop := ∀ R : (Int32) → (Int64) → Nat → (Int64) → Prop,
  (∀ (l9_2 : Int32) (l7_2 : Int64) (x1 : Int32), gB l9_2 0 1000000 → fI (F_1 q1) 3 = x1 → x1.toInt ≤ l9_2.toInt → R l9_2 l7_2 125 l7_2) →
  (∀ (l9_2 : Int32) (l7_2 : Int64) (x1 : Int32) (x2 : Int64) (x3 : Int64) (x4 : Int32) (k : Nat) (e1 : Int64), gB l9_2 0 1000000 → fI (F_1 q1) 3 = x1 → l9_2.toInt < x1.toInt → x2 = (c1.toUInt64 >>> (l9_2.toInt64.toUInt64 &&& Int64.toUInt64 63)).toInt64 → x3 = x2 &&& (1 : Int64) → x3 = (0 : Int64) → x4.toInt = l9_2.toInt + 1 → R x4 l7_2 k e1 → R l9_2 l7_2 k e1) →
  (∀ (l9_2 : Int32) (l7_2 : Int64) (x1 : Int32) (x2 : Int64) (x3 : Int64) (x4 : Nat) (x5 : Nat) (x6 : Int32) (x7 : Int32) (x8 : Int32) (k : Nat) (e1 : Int64), gB l9_2 0 1000000 → fI (F_1 q1) 3 = x1 → l9_2.toInt < x1.toInt → x2 = (c1.toUInt64 >>> (l9_2.toInt64.toUInt64 &&& Int64.toUInt64 63)).toInt64 → x3 = x2 &&& (1 : Int64) → (¬ x3 = (0 : Int64)) → fR (F_1 q1) 0 = x4 → x5 = el x4 l9_2.toInt.toNat → fI (F_1 x4) 2 = x6 → tr_RCode_get l9_2 x6 → gB x7 0 1 → tr_RModel_leads D I γ el F_1 x5 l4_1 x7 → x7.toInt = 0 → x8.toInt = l9_2.toInt + 1 → R x8 l7_2 k e1 → R l9_2 l7_2 k e1) →
  (∀ (l9_2 : Int32) (l7_2 : Int64) (x1 : Int32) (x2 : Int64) (x3 : Int64) (x4 : Nat) (x5 : Nat) (x6 : Int32) (x7 : Int32) (x8 : Int64) (x9 : Int64) (x10 : Int32) (k : Nat) (e1 : Int64), gB l9_2 0 1000000 → fI (F_1 q1) 3 = x1 → l9_2.toInt < x1.toInt → x2 = (c1.toUInt64 >>> (l9_2.toInt64.toUInt64 &&& Int64.toUInt64 63)).toInt64 → x3 = x2 &&& (1 : Int64) → (¬ x3 = (0 : Int64)) → fR (F_1 q1) 0 = x4 → x5 = el x4 l9_2.toInt.toNat → fI (F_1 x4) 2 = x6 → tr_RCode_get l9_2 x6 → gB x7 0 1 → tr_RModel_leads D I γ el F_1 x5 l4_1 x7 → x7.toInt ≠ 0 → x8 = (1 : Int64) <<< (l9_2.toInt64 &&& 63) → x9 = l7_2 ||| x8 → x10.toInt = l9_2.toInt + 1 → R x10 x9 k e1 → R l9_2 l7_2 k e1) →
  R s1 s2 k e1
/- tl_RModel_findDepth_32: F, l4; out: F -/
def tl_RModel_findDepth_32 (D : va_G) (I : FieldType → ClassId) (γ el : Nat → Nat → Nat) (P : List Nat) (F : Nat → va_E) (q1 : Nat) (c1 : Int64) (q0 : Nat) (s1 : Nat → va_E) (s2 : Int32) (k : Nat) (e1 : Nat → va_E) : Prop := ∀ R : (Nat → va_E) → (Int32) → Nat → (Nat → va_E) → Prop,
  (∀ (F_1 : Nat → va_E) (l4_1 : Int32) (x1 : Int32), gB l4_1 0 1000000 → RS D I P F_1 γ el → rStr γ [] F F_1 → fI (F_1 q1) 3 = x1 → x1.toInt ≤ l4_1.toInt → R F_1 l4_1 339 F_1) →
  (∀ (F_1 : Nat → va_E) (l4_1 : Int32) (x1 : Int32) (x2 : Int64) (x3 : Int64) (x4 : Int64) (x5 : Int64) (x6 : Int64) (x7 : Int64) (x8 : Int64) (x9 : Int64) (x10 : Int64) (x11 : Nat → va_E) (x12 : Int32) (k : Nat) (e1 : Nat → va_E), gB l4_1 0 1000000 → RS D I P F_1 γ el → rStr γ [] F F_1 → fI (F_1 q1) 3 = x1 → l4_1.toInt < x1.toInt → x2 = (c1.toUInt64 >>> (l4_1.toInt64.toUInt64 &&& Int64.toUInt64 63)).toInt64 → x3 = x2 &&& (1 : Int64) → (¬ x3 = (0 : Int64)) → tr_RModel_reached D I γ el F_1 q1 l4_1 x4 → x5 = x4 ^^^ (-1 : Int64) → x6 = c1 &&& x5 → tl_RModel_findDepth_75 D I γ el F_1 q1 x6 l4_1 (0 : Int32) (0 : Int64) 125 x7 → (¬ x7 = (0 : Int64)) → x8 = (1 : Int64) <<< (l4_1.toInt64 &&& 63) → x9 = x7 ||| x8 → tl_RModel_findDepth_147 D I γ el F_1 q1 c1 l4_1 (1 : Int32) x9 297 x10 → tl_RModel_findDepth_300 D I γ el P F q1 q0 x10 F_1 (0 : Int32) 333 x11 → x12.toInt = l4_1.toInt + 1 → R x11 x12 k e1 → R F_1 l4_1 k e1) →
  (∀ (F_1 : Nat → va_E) (l4_1 : Int32) (x1 : Int32) (x2 : Int64) (x3 : Int64) (x4 : Int64) (x5 : Int64) (x6 : Int64) (x7 : Int64) (x8 : Int32) (k : Nat) (e1 : Nat → va_E), gB l4_1 0 1000000 → RS D I P F_1 γ el → rStr γ [] F F_1 → fI (F_1 q1) 3 = x1 → l4_1.toInt < x1.toInt → x2 = (c1.toUInt64 >>> (l4_1.toInt64.toUInt64 &&& Int64.toUInt64 63)).toInt64 → x3 = x2 &&& (1 : Int64) → (¬ x3 = (0 : Int64)) → tr_RModel_reached D I γ el F_1 q1 l4_1 x4 → x5 = x4 ^^^ (-1 : Int64) → x6 = c1 &&& x5 → tl_RModel_findDepth_75 D I γ el F_1 q1 x6 l4_1 (0 : Int32) (0 : Int64) 125 x7 → x7 = (0 : Int64) → x8.toInt = l4_1.toInt + 1 → R F_1 x8 k e1 → R F_1 l4_1 k e1) →
  (∀ (F_1 : Nat → va_E) (l4_1 : Int32) (x1 : Int32) (x2 : Int64) (x3 : Int64) (x4 : Int32) (k : Nat) (e1 : Nat → va_E), gB l4_1 0 1000000 → RS D I P F_1 γ el → rStr γ [] F F_1 → fI (F_1 q1) 3 = x1 → l4_1.toInt < x1.toInt → x2 = (c1.toUInt64 >>> (l4_1.toInt64.toUInt64 &&& Int64.toUInt64 63)).toInt64 → x3 = x2 &&& (1 : Int64) → x3 = (0 : Int64) → x4.toInt = l4_1.toInt + 1 → R F_1 x4 k e1 → R F_1 l4_1 k e1) →
  R s1 s2 k e1
/- tl_RModel_findDepth_2: F, l2; out: F -/
def tl_RModel_findDepth_2 (D : va_G) (I : FieldType → ClassId) (γ el : Nat → Nat → Nat) (P : List Nat) (F : Nat → va_E) (q1 : Nat) (q0 : Nat) (s1 : Nat → va_E) (s2 : Int32) (k : Nat) (e1 : Nat → va_E) : Prop := ∀ R : (Nat → va_E) → (Int32) → Nat → (Nat → va_E) → Prop,
  (∀ (F_1 : Nat → va_E) (l2_1 : Int32) (x1 : Int32), gB l2_1 0 1000000 → RS D I P F_1 γ el → rStr γ [] F F_1 → fI (F_1 q1) 3 = x1 → x1.toInt ≤ l2_1.toInt → R F_1 l2_1 23 F_1) →
  (∀ (F_1 : Nat → va_E) (l2_1 : Int32) (x1 : Int32) (x2 : Nat → Int32) (x3 : Nat → Int32) (x4 : Nat → va_E) (x5 : Int32) (k : Nat) (e1 : Nat → va_E), gB l2_1 0 1000000 → RS D I P F_1 γ el → rStr γ [] F F_1 → fI (F_1 q1) 3 = x1 → l2_1.toInt < x1.toInt → fR (F_1 q0) 4 = (γ 9 4) → F_1 (γ 9 4) = .inl (I .int, 40, .inl x2) → x3 = upd x2 l2_1.toNatClampNeg 0 → (∀ b, b ≠ (γ 9 4) → x4 b = F_1 b) → x4 (γ 9 4) = .inl (I .int, 40, .inl x3) → x5.toInt = l2_1.toInt + 1 → R x4 x5 k e1 → R F_1 l2_1 k e1) →
  R s1 s2 k e1
/- tr_RModel_findDepth: F -/
def tr_RModel_findDepth (D : va_G) (I : FieldType → ClassId) (γ el : Nat → Nat → Nat) (P : List Nat) (F : Nat → va_E) (q0 : Nat) (q1 : Nat) (o1 : Nat → va_E) : Prop := ∀ R : (Nat → va_E) → Prop,
  (∀ (x1 : Nat → va_E) (x2 : Int64) (x3 : Nat → va_E) (x4 : Nat → va_E), tl_RModel_findDepth_2 D I γ el P F q1 q0 F (0 : Int32) 23 x1 → tr_RModel_reached D I γ el x1 q1 (-1 : Int32) x2 → tl_RModel_findDepth_32 D I γ el P F q1 x2 q0 x1 (0 : Int32) 339 x3 → tl_RModel_findDepth_342 D I γ el P F q1 q0 x3 (0 : Int32) 375 x4 → R x4) →
  R o1
