theorem dr_cX17_shown_0 : decode cX17_shown 0 = .ok (.aload_n 0, 1) := by decide +kernel
theorem dr_cX17_shown_1 : decode cX17_shown 1 = .ok (.iconst 0, 1) := by decide +kernel
theorem dr_cX17_shown_2 : decode cX17_shown 2 = .ok (.putfield 380, 3) := by decide +kernel
theorem dr_cX17_shown_5 : decode cX17_shown 5 = .ok (.iload_n 1, 1) := by decide +kernel
theorem dr_cX17_shown_6 : decode cX17_shown 6 = .ok (.ifCond .lt 20, 3) := by decide +kernel
theorem dr_cX17_shown_26 : decode cX17_shown 26 = .ok (.aload_n 0, 1) := by decide +kernel
theorem dr_cX17_shown_27 : decode cX17_shown 27 = .ok (.iconst 1, 1) := by decide +kernel
theorem dr_cX17_shown_28 : decode cX17_shown 28 = .ok (.invokevirtual 385, 3) := by decide +kernel
theorem dr_cX17_shown_31 : decode cX17_shown 31 = .ok (.ireturn, 1) := by decide +kernel
theorem dr_cX17_shown_9 : decode cX17_shown 9 = .ok (.iload_n 1, 1) := by decide +kernel
theorem dr_cX17_shown_10 : decode cX17_shown 10 = .ok (.aload_n 0, 1) := by decide +kernel
theorem dr_cX17_shown_11 : decode cX17_shown 11 = .ok (.getfield 280, 3) := by decide +kernel
theorem dr_cX17_shown_14 : decode cX17_shown 14 = .ok (.if_icmp .ge 12, 3) := by decide +kernel
theorem dr_cX17_shown_17 : decode cX17_shown 17 = .ok (.aload_n 0, 1) := by decide +kernel
theorem dr_cX17_shown_18 : decode cX17_shown 18 = .ok (.getfield 306, 3) := by decide +kernel
theorem dr_cX17_shown_21 : decode cX17_shown 21 = .ok (.iload_n 1, 1) := by decide +kernel
theorem dr_cX17_shown_22 : decode cX17_shown 22 = .ok (.iaload, 1) := by decide +kernel
theorem dr_cX17_shown_23 : decode cX17_shown 23 = .ok (.goto 8, 3) := by decide +kernel
theorem dr_cX17_thrown_0 : decode cX17_thrown 0 = .ok (.aload_n 0, 1) := by decide +kernel
theorem dr_cX17_thrown_1 : decode cX17_thrown 1 = .ok (.getfield 380, 3) := by decide +kernel
theorem dr_cX17_thrown_4 : decode cX17_thrown 4 = .ok (.ireturn, 1) := by decide +kernel
theorem dr_cX17_word_0 : decode cX17_word 0 = .ok (.iconst 0, 1) := by decide +kernel
theorem dr_cX17_word_1 : decode cX17_word 1 = .ok (.istore_n 3, 1) := by decide +kernel
theorem dr_cX17_word_2 : decode cX17_word 2 = .ok (.iload_n 3, 1) := by decide +kernel
theorem dr_cX17_word_3 : decode cX17_word 3 = .ok (.iconst 4, 1) := by decide +kernel
theorem dr_cX17_word_4 : decode cX17_word 4 = .ok (.if_icmp .ge 27, 3) := by decide +kernel
theorem dr_cX17_word_31 : decode cX17_word 31 = .ok (.return_, 1) := by decide +kernel
theorem dr_cX17_word_7 : decode cX17_word 7 = .ok (.aload_n 0, 1) := by decide +kernel
theorem dr_cX17_word_8 : decode cX17_word 8 = .ok (.getfield 374, 3) := by decide +kernel
theorem wr_7_105 : (Jvm.Cond.fieldLink "SpillForgeModel" (374 : Nat) "SpillForgeModel" "tape" "[B") ∈ gw := gw_7 105 rfl rfl
theorem dr_cX17_word_11 : decode cX17_word 11 = .ok (.iload_n 2, 1) := by decide +kernel
theorem dr_cX17_word_12 : decode cX17_word 12 = .ok (.iload_n 3, 1) := by decide +kernel
theorem dr_cX17_word_13 : decode cX17_word 13 = .ok (.iadd, 1) := by decide +kernel
theorem dr_cX17_word_14 : decode cX17_word 14 = .ok (.iload_n 1, 1) := by decide +kernel
theorem dr_cX17_word_15 : decode cX17_word 15 = .ok (.bipush 24, 2) := by decide +kernel
theorem dr_cX17_word_17 : decode cX17_word 17 = .ok (.bipush 8, 2) := by decide +kernel
theorem dr_cX17_word_19 : decode cX17_word 19 = .ok (.iload_n 3, 1) := by decide +kernel
theorem dr_cX17_word_20 : decode cX17_word 20 = .ok (.imul, 1) := by decide +kernel
theorem dr_cX17_word_21 : decode cX17_word 21 = .ok (.isub, 1) := by decide +kernel
theorem dr_cX17_word_22 : decode cX17_word 22 = .ok (.ishr, 1) := by decide +kernel
theorem dr_cX17_word_23 : decode cX17_word 23 = .ok (.i2b, 1) := by decide +kernel
theorem dr_cX17_word_24 : decode cX17_word 24 = .ok (.bastore, 1) := by decide +kernel
theorem dr_cX17_word_25 : decode cX17_word 25 = .ok (.iinc 3 1, 3) := by decide +kernel
theorem dr_cX17_word_28 : decode cX17_word 28 = .ok (.goto (-26), 3) := by decide +kernel
theorem dr_cX17_feed_0 : decode cX17_feed 0 = .ok (.aload_n 0, 1) := by decide +kernel
theorem dr_cX17_feed_1 : decode cX17_feed 1 = .ok (.iconst 0, 1) := by decide +kernel
theorem dr_cX17_feed_2 : decode cX17_feed 2 = .ok (.putfield 380, 3) := by decide +kernel
theorem dr_cX17_feed_5 : decode cX17_feed 5 = .ok (.aload_n 0, 1) := by decide +kernel
theorem dr_cX17_feed_6 : decode cX17_feed 6 = .ok (.getfield 383, 3) := by decide +kernel
theorem wr_7_106 : (Jvm.Cond.fieldLink "SpillForgeModel" (383 : Nat) "SpillForgeModel" "size" "I") ∈ gw := gw_7 106 rfl rfl
theorem dr_cX17_feed_9 : decode cX17_feed 9 = .ok (.bipush 20, 2) := by decide +kernel
theorem dr_cX17_feed_11 : decode cX17_feed 11 = .ok (.iadd, 1) := by decide +kernel
theorem dr_cX17_feed_12 : decode cX17_feed 12 = .ok (.sipush 8192, 3) := by decide +kernel
theorem dr_cX17_feed_15 : decode cX17_feed 15 = .ok (.if_icmp .le 9, 3) := by decide +kernel
theorem dr_cX17_feed_24 : decode cX17_feed 24 = .ok (.aload_n 0, 1) := by decide +kernel
theorem dr_cX17_feed_25 : decode cX17_feed 25 = .ok (.iload_n 1, 1) := by decide +kernel
theorem dr_cX17_feed_26 : decode cX17_feed 26 = .ok (.aload_n 0, 1) := by decide +kernel
theorem dr_cX17_feed_27 : decode cX17_feed 27 = .ok (.getfield 383, 3) := by decide +kernel
theorem dr_cX17_feed_30 : decode cX17_feed 30 = .ok (.invokevirtual 388, 3) := by decide +kernel
theorem wr_7_195 : (Jvm.Cond.methodLink "SpillForgeModel" (388 : Nat) ({ cls := "SpillForgeModel", name := "word", desc := "(II)V" } : Jvm.MethodName)) ∈ gw := gw_7 195 rfl rfl
theorem wr_7_198 : (Jvm.Cond.code ({ cls := "SpillForgeModel", name := "word", desc := "(II)V" } : Jvm.MethodName) prog_14_method_39_code (4 : Nat) (Option.none : Option Jvm.ClassFile.FieldType)) ∈ gw := gw_7 198 rfl rfl
theorem wr_7_197 : (Jvm.Cond.instanceMethod ({ cls := "SpillForgeModel", name := "word", desc := "(II)V" } : Jvm.MethodName)) ∈ gw := gw_7 197 rfl rfl
theorem wr_p_74 : Cond.selects "SpillForgeModel" ⟨"SpillForgeModel", "word", "(II)V"⟩ ⟨"SpillForgeModel", "word", "(II)V"⟩ ∈ gw := gw_p _ 74 rfl rfl rfl
theorem dr_cX17_feed_33 : decode cX17_feed 33 = .ok (.aload_n 0, 1) := by decide +kernel
theorem dr_cX17_feed_34 : decode cX17_feed 34 = .ok (.iload_n 2, 1) := by decide +kernel
theorem dr_cX17_feed_35 : decode cX17_feed 35 = .ok (.aload_n 0, 1) := by decide +kernel
theorem dr_cX17_feed_36 : decode cX17_feed 36 = .ok (.getfield 383, 3) := by decide +kernel
theorem dr_cX17_feed_39 : decode cX17_feed 39 = .ok (.iconst 4, 1) := by decide +kernel
theorem dr_cX17_feed_40 : decode cX17_feed 40 = .ok (.iadd, 1) := by decide +kernel
theorem dr_cX17_feed_41 : decode cX17_feed 41 = .ok (.invokevirtual 388, 3) := by decide +kernel
theorem dr_cX17_feed_44 : decode cX17_feed 44 = .ok (.aload_n 0, 1) := by decide +kernel
theorem dr_cX17_feed_45 : decode cX17_feed 45 = .ok (.iload_n 3, 1) := by decide +kernel
theorem dr_cX17_feed_46 : decode cX17_feed 46 = .ok (.aload_n 0, 1) := by decide +kernel
theorem dr_cX17_feed_47 : decode cX17_feed 47 = .ok (.getfield 383, 3) := by decide +kernel
theorem dr_cX17_feed_50 : decode cX17_feed 50 = .ok (.bipush 8, 2) := by decide +kernel
theorem dr_cX17_feed_52 : decode cX17_feed 52 = .ok (.iadd, 1) := by decide +kernel
theorem dr_cX17_feed_53 : decode cX17_feed 53 = .ok (.invokevirtual 388, 3) := by decide +kernel
theorem dr_cX17_feed_56 : decode cX17_feed 56 = .ok (.aload_n 0, 1) := by decide +kernel
theorem dr_cX17_feed_57 : decode cX17_feed 57 = .ok (.iload 4, 2) := by decide +kernel
theorem dr_cX17_feed_59 : decode cX17_feed 59 = .ok (.aload_n 0, 1) := by decide +kernel
theorem dr_cX17_feed_60 : decode cX17_feed 60 = .ok (.getfield 383, 3) := by decide +kernel
theorem dr_cX17_feed_63 : decode cX17_feed 63 = .ok (.bipush 12, 2) := by decide +kernel
theorem dr_cX17_feed_65 : decode cX17_feed 65 = .ok (.iadd, 1) := by decide +kernel
theorem dr_cX17_feed_66 : decode cX17_feed 66 = .ok (.invokevirtual 388, 3) := by decide +kernel
theorem dr_cX17_feed_69 : decode cX17_feed 69 = .ok (.aload_n 0, 1) := by decide +kernel
theorem dr_cX17_feed_70 : decode cX17_feed 70 = .ok (.iload 5, 2) := by decide +kernel
theorem dr_cX17_feed_72 : decode cX17_feed 72 = .ok (.aload_n 0, 1) := by decide +kernel
theorem dr_cX17_feed_73 : decode cX17_feed 73 = .ok (.getfield 383, 3) := by decide +kernel
theorem dr_cX17_feed_76 : decode cX17_feed 76 = .ok (.bipush 16, 2) := by decide +kernel
theorem dr_cX17_feed_78 : decode cX17_feed 78 = .ok (.iadd, 1) := by decide +kernel
theorem dr_cX17_feed_79 : decode cX17_feed 79 = .ok (.invokevirtual 388, 3) := by decide +kernel
theorem dr_cX17_feed_82 : decode cX17_feed 82 = .ok (.aload_n 0, 1) := by decide +kernel
theorem dr_cX17_feed_83 : decode cX17_feed 83 = .ok (.dup, 1) := by decide +kernel
theorem dr_cX17_feed_84 : decode cX17_feed 84 = .ok (.getfield 383, 3) := by decide +kernel
theorem dr_cX17_feed_87 : decode cX17_feed 87 = .ok (.bipush 20, 2) := by decide +kernel
theorem dr_cX17_feed_89 : decode cX17_feed 89 = .ok (.iadd, 1) := by decide +kernel
theorem dr_cX17_feed_90 : decode cX17_feed 90 = .ok (.putfield 383, 3) := by decide +kernel
theorem dr_cX17_feed_93 : decode cX17_feed 93 = .ok (.aload_n 0, 1) := by decide +kernel
theorem dr_cX17_feed_94 : decode cX17_feed 94 = .ok (.getfield 383, 3) := by decide +kernel
theorem dr_cX17_feed_97 : decode cX17_feed 97 = .ok (.ireturn, 1) := by decide +kernel
theorem dr_cX17_feed_18 : decode cX17_feed 18 = .ok (.aload_n 0, 1) := by decide +kernel
theorem dr_cX17_feed_19 : decode cX17_feed 19 = .ok (.iconst 1, 1) := by decide +kernel
theorem dr_cX17_feed_20 : decode cX17_feed 20 = .ok (.invokevirtual 385, 3) := by decide +kernel
theorem dr_cX17_feed_23 : decode cX17_feed 23 = .ok (.ireturn, 1) := by decide +kernel
theorem dr_cX17_end_0 : decode cX17_end 0 = .ok (.aload_n 0, 1) := by decide +kernel
theorem dr_cX17_end_1 : decode cX17_end 1 = .ok (.iconst 0, 1) := by decide +kernel
theorem dr_cX17_end_2 : decode cX17_end 2 = .ok (.putfield 380, 3) := by decide +kernel
theorem dr_cX17_end_5 : decode cX17_end 5 = .ok (.iload_n 1, 1) := by decide +kernel
theorem dr_cX17_end_6 : decode cX17_end 6 = .ok (.ifCond .lt 11, 3) := by decide +kernel
theorem dr_cX17_end_17 : decode cX17_end 17 = .ok (.aload_n 0, 1) := by decide +kernel
theorem dr_cX17_end_18 : decode cX17_end 18 = .ok (.iconst 1, 1) := by decide +kernel
theorem dr_cX17_end_19 : decode cX17_end 19 = .ok (.invokevirtual 385, 3) := by decide +kernel
theorem dr_cX17_end_22 : decode cX17_end 22 = .ok (.ireturn, 1) := by decide +kernel
theorem dr_cX17_end_9 : decode cX17_end 9 = .ok (.iload_n 1, 1) := by decide +kernel
theorem dr_cX17_end_10 : decode cX17_end 10 = .ok (.aload_n 0, 1) := by decide +kernel
theorem dr_cX17_end_11 : decode cX17_end 11 = .ok (.getfield 383, 3) := by decide +kernel
theorem dr_cX17_end_14 : decode cX17_end 14 = .ok (.if_icmp .le 9, 3) := by decide +kernel
theorem dr_cX17_end_23 : decode cX17_end 23 = .ok (.aload_n 0, 1) := by decide +kernel
theorem dr_cX17_end_24 : decode cX17_end 24 = .ok (.iload_n 1, 1) := by decide +kernel
theorem dr_cX17_end_25 : decode cX17_end 25 = .ok (.putfield 383, 3) := by decide +kernel
theorem dr_cX17_end_28 : decode cX17_end 28 = .ok (.iload_n 1, 1) := by decide +kernel
theorem dr_cX17_end_29 : decode cX17_end 29 = .ok (.ireturn, 1) := by decide +kernel
/- tr_RModel_thrown: result -/
def tr_RModel_thrown (D : va_G) (I : FieldType → ClassId) (γ el : Nat → Nat → Nat) (F : Nat → va_E) (q0 : Nat) (o1 : Int32) : Prop := ∀ R : (Int32) → Prop,
  (∀ (x1 : Int32), fI (F q0) 30 = x1 → R x1) →
  R o1
/- tl_RModel_word_2: F, l3; out: F -/
def tl_RModel_word_2 (D : va_G) (I : FieldType → ClassId) (γ el : Nat → Nat → Nat) (P : List Nat) (F : Nat → va_E) (q0 : Nat) (a2 : Int32) (a1 : Int32) (s1 : Nat → va_E) (s2 : Int32) (k : Nat) (e1 : Nat → va_E) : Prop := ∀ R : (Nat → va_E) → (Int32) → Nat → (Nat → va_E) → Prop,
  (∀ (F_1 : Nat → va_E) (l3_1 : Int32), gB l3_1 0 4 → RS D I P F_1 γ el → rStr γ [] F F_1 → (fI (F_1 q0) 32).toInt = (fI (F q0) 32).toInt → (fI (F_1 q0) 30).toInt = (fI (F q0) 30).toInt → 4 ≤ l3_1.toInt → R F_1 l3_1 31 F_1) →
  (∀ (F_1 : Nat → va_E) (l3_1 : Int32) (x1 : Int32) (x2 : Int32) (x3 : Int32) (x4 : Int32) (x5 : Int32) (x6 : Nat → Int32) (x7 : Nat → Int32) (x8 : Nat → va_E) (x9 : Int32) (k : Nat) (e1 : Nat → va_E), gB l3_1 0 4 → RS D I P F_1 γ el → rStr γ [] F F_1 → (fI (F_1 q0) 32).toInt = (fI (F q0) 32).toInt → (fI (F_1 q0) 30).toInt = (fI (F q0) 30).toInt → l3_1.toInt < 4 → fR (F_1 q0) 31 = (γ 9 31) → x1.toInt = a2.toInt + l3_1.toInt → x2.toInt = 8 * l3_1.toInt → x3.toInt = 24 - x2.toInt → x4 = a1 >>> (x3 &&& 31) → x5 = x4.toInt8.toInt32 → F_1 (γ 9 31) = .inl (I .byte, 8192, .inl x6) → x7 = upd x6 x1.toNatClampNeg (vp_nar .byte x5) → (∀ b, b ≠ (γ 9 31) → x8 b = F_1 b) → x8 (γ 9 31) = .inl (I .byte, 8192, .inl x7) → x9.toInt = l3_1.toInt + 1 → R x8 x9 k e1 → R F_1 l3_1 k e1) →
  R s1 s2 k e1
/- tr_RModel_word: F -/
def tr_RModel_word (D : va_G) (I : FieldType → ClassId) (γ el : Nat → Nat → Nat) (P : List Nat) (F : Nat → va_E) (q0 : Nat) (a1 : Int32) (a2 : Int32) (o1 : Nat → va_E) : Prop := ∀ R : (Nat → va_E) → Prop,
  (∀ (x1 : Nat → va_E), tl_RModel_word_2 D I γ el P F q0 a2 a1 F (0 : Int32) 31 x1 → R x1) →
  R o1
/- tr_RModel_feed: result, F -/
def tr_RModel_feed (D : va_G) (I : FieldType → ClassId) (γ el : Nat → Nat → Nat) (P : List Nat) (F : Nat → va_E) (q0 : Nat) (a1 : Int32) (a2 : Int32) (a3 : Int32) (a4 : Int32) (a5 : Int32) (o1 : Int32) (o2 : Nat → va_E) : Prop := ∀ R : (Int32) → (Nat → va_E) → Prop,
  (∀ (x1 : Nat → va_E) (x2 : Int32) (x3 : Int32) (x4 : Nat → va_E) (x5 : Int32) (x6 : Int32) (x7 : Nat → va_E) (x8 : Int32) (x9 : Int32) (x10 : Nat → va_E) (x11 : Int32) (x12 : Int32) (x13 : Nat → va_E) (x14 : Int32) (x15 : Int32) (x16 : Nat → va_E) (x17 : Int32) (x18 : Int32) (x19 : Nat → va_E), (∀ b, b ≠ q0 → x1 b = F b) → x1 q0 = cF (F q0) 30 (.int 0) → fI (x1 q0) 32 = x2 → x3.toInt = x2.toInt + 20 → x3.toInt ≤ 8192 → RS D I P x4 γ el → rStr γ [] x1 x4 → (fI (x4 q0) 32).toInt = (fI (x1 q0) 32).toInt → (fI (x4 q0) 30).toInt = (fI (x1 q0) 30).toInt → tr_RModel_word D I γ el P x1 q0 a1 x2 x4 → fI (x4 q0) 32 = x5 → x6.toInt = x5.toInt + 4 → RS D I P x7 γ el → rStr γ [] x4 x7 → (fI (x7 q0) 32).toInt = (fI (x4 q0) 32).toInt → (fI (x7 q0) 30).toInt = (fI (x4 q0) 30).toInt → tr_RModel_word D I γ el P x4 q0 a2 x6 x7 → fI (x7 q0) 32 = x8 → x9.toInt = x8.toInt + 8 → RS D I P x10 γ el → rStr γ [] x7 x10 → (fI (x10 q0) 32).toInt = (fI (x7 q0) 32).toInt → (fI (x10 q0) 30).toInt = (fI (x7 q0) 30).toInt → tr_RModel_word D I γ el P x7 q0 a3 x9 x10 → fI (x10 q0) 32 = x11 → x12.toInt = x11.toInt + 12 → RS D I P x13 γ el → rStr γ [] x10 x13 → (fI (x13 q0) 32).toInt = (fI (x10 q0) 32).toInt → (fI (x13 q0) 30).toInt = (fI (x10 q0) 30).toInt → tr_RModel_word D I γ el P x10 q0 a4 x12 x13 → fI (x13 q0) 32 = x14 → x15.toInt = x14.toInt + 16 → RS D I P x16 γ el → rStr γ [] x13 x16 → (fI (x16 q0) 32).toInt = (fI (x13 q0) 32).toInt → (fI (x16 q0) 30).toInt = (fI (x13 q0) 30).toInt → tr_RModel_word D I γ el P x13 q0 a5 x15 x16 → fI (x16 q0) 32 = x17 → x18.toInt = x17.toInt + 20 → (∀ b, b ≠ q0 → x19 b = x16 b) → x19 q0 = cF (x16 q0) 32 (.int x18) → fI (x19 q0) 32 = x18 → R x18 x19) →
  (∀ (x1 : Nat → va_E) (x2 : Int32) (x3 : Int32) (x4 : Nat → va_E), (∀ b, b ≠ q0 → x1 b = F b) → x1 q0 = cF (F q0) 30 (.int 0) → fI (x1 q0) 32 = x2 → x3.toInt = x2.toInt + 20 → 8192 < x3.toInt → RS D I P x4 γ el → rStr γ [] x1 x4 → (fI (x4 q0) 32).toInt = (fI (x1 q0) 32).toInt → (fI (x4 q0) 30).toInt = 1 → tr_RModel_no D I γ el x1 q0 (1 : Int32) x4 → R (0 : Int32) x4) →
  R o1 o2
/- tr_RModel_end: result, F -/
def tr_RModel_end (D : va_G) (I : FieldType → ClassId) (γ el : Nat → Nat → Nat) (P : List Nat) (F : Nat → va_E) (q0 : Nat) (a1 : Int32) (o1 : Int32) (o2 : Nat → va_E) : Prop := ∀ R : (Int32) → (Nat → va_E) → Prop,
  (∀ (x1 : Nat → va_E) (x2 : Nat → va_E), (∀ b, b ≠ q0 → x1 b = F b) → x1 q0 = cF (F q0) 30 (.int 0) → a1.toInt < 0 → RS D I P x2 γ el → rStr γ [] x1 x2 → (fI (x2 q0) 32).toInt = (fI (x1 q0) 32).toInt → (fI (x2 q0) 30).toInt = 1 → tr_RModel_no D I γ el x1 q0 (1 : Int32) x2 → R (0 : Int32) x2) →
  (∀ (x1 : Nat → va_E) (x2 : Int32) (x3 : Nat → va_E), (∀ b, b ≠ q0 → x1 b = F b) → x1 q0 = cF (F q0) 30 (.int 0) → 0 ≤ a1.toInt → fI (x1 q0) 32 = x2 → a1.toInt ≤ x2.toInt → (∀ b, b ≠ q0 → x3 b = x1 b) → x3 q0 = cF (x1 q0) 32 (.int a1) → R a1 x3) →
  (∀ (x1 : Nat → va_E) (x2 : Int32) (x3 : Nat → va_E), (∀ b, b ≠ q0 → x1 b = F b) → x1 q0 = cF (F q0) 30 (.int 0) → 0 ≤ a1.toInt → fI (x1 q0) 32 = x2 → x2.toInt < a1.toInt → RS D I P x3 γ el → rStr γ [] x1 x3 → (fI (x3 q0) 32).toInt = (fI (x1 q0) 32).toInt → (fI (x3 q0) 30).toInt = 1 → tr_RModel_no D I γ el x1 q0 (1 : Int32) x3 → R (0 : Int32) x3) →
  R o1 o2
/- tl_RModel_run_54: F, l3, l4; out: l6, F -/
def tl_RModel_run_54 (D : va_G) (I : FieldType → ClassId) (γ el : Nat → Nat → Nat) (P : List Nat) (F : Nat → va_E) (q1 : Nat) (q0 : Nat) (a2 : Int32) (s1 : Nat → va_E) (s2 : Int32) (s3 : Int32) (k : Nat) (e1 : Nat) (e2 : Nat → va_E) : Prop := ∀ R : (Nat → va_E) → (Int32) → (Int32) → Nat → (Nat) → (Nat → va_E) → Prop,
  (∀ (F_1 : Nat → va_E) (l3_1 : Int32) (l4_1 : Int32) (x1 : Nat) (x2 : Nat) (x3 : Int32) (x4 : Int32) (x5 : Int32) (x6 : Nat → va_E) (x7 : Nat) (x8 : Int32) (x9 : Nat) (x10 : Int32) (x11 : Int32) (k : Nat) (e1 : Nat) (e2 : Nat → va_E), gB l3_1 0 39 → gB l4_1 0 1000000 → RS D I P F_1 γ el → rStr γ [] F F_1 → l3_1.toInt < γ 6 (γ 1 q1) → (fI (F_1 q0) 26).toInt ≤ a2.toInt → fR (F_1 q1) 0 = x1 → x2 = el x1 l3_1.toInt.toNat → fI (F_1 x1) 2 = x3 → tr_RCode_get l3_1 x3 → fI (F_1 q0) 26 = x4 → x4.toInt ≠ a2.toInt → x5.toInt = x4.toInt + 1 → (∀ b, b ≠ q0 → x6 b = F_1 b) → x6 q0 = cF (F_1 q0) 26 (.int x5) → fR (x6 x2) 0 = x7 → x8.toInt = (γ 2 x7 : Int) → fI (x6 x7) 2 = x8 → x8.toInt ≤ l4_1.toInt → fR (x6 x2) 1 = x9 → fI (x6 x9) 0 = x10 → x10.toInt ≠ 32 → x10.toInt = 30 → fI (x6 x2) 2 = x11 → R x6 x11 (0 : Int32) k e1 e2 → R F_1 l3_1 l4_1 k e1 e2) →
  (∀ (F_1 : Nat → va_E) (l3_1 : Int32) (l4_1 : Int32) (x1 : Nat) (x2 : Nat) (x3 : Int32) (x4 : Int32) (x5 : Int32) (x6 : Nat → va_E) (x7 : Nat) (x8 : Int32) (x9 : Nat) (x10 : Int32) (x11 : Int32) (x12 : Int32) (x13 : Int32) (x14 : Int32) (k : Nat) (e1 : Nat) (e2 : Nat → va_E), gB l3_1 0 39 → gB l4_1 0 1000000 → RS D I P F_1 γ el → rStr γ [] F F_1 → l3_1.toInt < γ 6 (γ 1 q1) → (fI (F_1 q0) 26).toInt ≤ a2.toInt → fR (F_1 q1) 0 = x1 → x2 = el x1 l3_1.toInt.toNat → fI (F_1 x1) 2 = x3 → tr_RCode_get l3_1 x3 → fI (F_1 q0) 26 = x4 → x4.toInt ≠ a2.toInt → x5.toInt = x4.toInt + 1 → (∀ b, b ≠ q0 → x6 b = F_1 b) → x6 q0 = cF (F_1 q0) 26 (.int x5) → fR (x6 x2) 0 = x7 → x8.toInt = (γ 2 x7 : Int) → fI (x6 x7) 2 = x8 → x8.toInt ≤ l4_1.toInt → fR (x6 x2) 1 = x9 → fI (x6 x9) 0 = x10 → x10.toInt ≠ 32 → x10.toInt ≠ 30 → fI (x6 x9) 5 = x11 → fI (x6 x9) 2 = x12 → tr_RModel_value D I γ el x6 q0 x11 x12 x13 → x13.toInt = 0 → fI (x6 x2) 3 = x14 → R x6 x14 (0 : Int32) k e1 e2 → R F_1 l3_1 l4_1 k e1 e2) →
  (∀ (F_1 : Nat → va_E) (l3_1 : Int32) (l4_1 : Int32) (x1 : Nat) (x2 : Nat) (x3 : Int32) (x4 : Int32) (x5 : Int32) (x6 : Nat → va_E) (x7 : Nat) (x8 : Int32) (x9 : Nat) (x10 : Int32) (x11 : Int32) (x12 : Int32) (x13 : Int32) (x14 : Int32) (k : Nat) (e1 : Nat) (e2 : Nat → va_E), gB l3_1 0 39 → gB l4_1 0 1000000 → RS D I P F_1 γ el → rStr γ [] F F_1 → l3_1.toInt < γ 6 (γ 1 q1) → (fI (F_1 q0) 26).toInt ≤ a2.toInt → fR (F_1 q1) 0 = x1 → x2 = el x1 l3_1.toInt.toNat → fI (F_1 x1) 2 = x3 → tr_RCode_get l3_1 x3 → fI (F_1 q0) 26 = x4 → x4.toInt ≠ a2.toInt → x5.toInt = x4.toInt + 1 → (∀ b, b ≠ q0 → x6 b = F_1 b) → x6 q0 = cF (F_1 q0) 26 (.int x5) → fR (x6 x2) 0 = x7 → x8.toInt = (γ 2 x7 : Int) → fI (x6 x7) 2 = x8 → x8.toInt ≤ l4_1.toInt → fR (x6 x2) 1 = x9 → fI (x6 x9) 0 = x10 → x10.toInt ≠ 32 → x10.toInt ≠ 30 → fI (x6 x9) 5 = x11 → fI (x6 x9) 2 = x12 → tr_RModel_value D I γ el x6 q0 x11 x12 x13 → x13.toInt ≠ 0 → fI (x6 x2) 2 = x14 → R x6 x14 (0 : Int32) k e1 e2 → R F_1 l3_1 l4_1 k e1 e2) →
  (∀ (F_1 : Nat → va_E) (l3_1 : Int32) (l4_1 : Int32) (x1 : Nat) (x2 : Nat) (x3 : Int32) (x4 : Int32) (x5 : Int32) (x6 : Nat → va_E) (x7 : Nat) (x8 : Int32) (x9 : Nat) (x10 : Int32), gB l3_1 0 39 → gB l4_1 0 1000000 → RS D I P F_1 γ el → rStr γ [] F F_1 → l3_1.toInt < γ 6 (γ 1 q1) → (fI (F_1 q0) 26).toInt ≤ a2.toInt → fR (F_1 q1) 0 = x1 → x2 = el x1 l3_1.toInt.toNat → fI (F_1 x1) 2 = x3 → tr_RCode_get l3_1 x3 → fI (F_1 q0) 26 = x4 → x4.toInt ≠ a2.toInt → x5.toInt = x4.toInt + 1 → (∀ b, b ≠ q0 → x6 b = F_1 b) → x6 q0 = cF (F_1 q0) 26 (.int x5) → fR (x6 x2) 0 = x7 → x8.toInt = (γ 2 x7 : Int) → fI (x6 x7) 2 = x8 → x8.toInt ≤ l4_1.toInt → fR (x6 x2) 1 = x9 → fI (x6 x9) 0 = x10 → x10.toInt = 32 → R F_1 l3_1 l4_1 144 x9 x6) →
  (∀ (F_1 : Nat → va_E) (l3_1 : Int32) (l4_1 : Int32) (x1 : Nat) (x2 : Nat) (x3 : Int32) (x4 : Int32) (x5 : Int32) (x6 : Nat → va_E) (x7 : Nat) (x8 : Int32) (x9 : Nat) (x10 : Int32) (x11 : Nat → va_E) (x12 : Int32) (k : Nat) (e1 : Nat) (e2 : Nat → va_E), gB l3_1 0 39 → gB l4_1 0 1000000 → RS D I P F_1 γ el → rStr γ [] F F_1 → l3_1.toInt < γ 6 (γ 1 q1) → (fI (F_1 q0) 26).toInt ≤ a2.toInt → fR (F_1 q1) 0 = x1 → x2 = el x1 l3_1.toInt.toNat → fI (F_1 x1) 2 = x3 → tr_RCode_get l3_1 x3 → fI (F_1 q0) 26 = x4 → x4.toInt ≠ a2.toInt → x5.toInt = x4.toInt + 1 → (∀ b, b ≠ q0 → x6 b = F_1 b) → x6 q0 = cF (F_1 q0) 26 (.int x5) → fR (x6 x2) 0 = x7 → x8.toInt = (γ 2 x7 : Int) → fI (x6 x7) 2 = x8 → l4_1.toInt < x8.toInt → x9 = el x7 l4_1.toInt.toNat → tr_RArrayList_get l4_1 x8 → gB x10 (-1) 5 → RS D I P x11 γ el → rStr γ [] x6 x11 → (fI (x11 q0) 26).toInt = (fI (x6 q0) 26).toInt → (fI (x11 q0) 32).toInt = (fI (x6 q0) 32).toInt → tr_RModel_step D I γ el x6 q0 x9 x10 x11 → x10.toInt < 0 → x12.toInt = l4_1.toInt + 1 → R x11 l3_1 x12 k e1 e2 → R F_1 l3_1 l4_1 k e1 e2) →
  (∀ (F_1 : Nat → va_E) (l3_1 : Int32) (l4_1 : Int32) (x1 : Nat) (x2 : Nat) (x3 : Int32) (x4 : Int32) (x5 : Int32) (x6 : Nat → va_E) (x7 : Nat) (x8 : Int32) (x9 : Nat) (x10 : Int32) (x11 : Nat → va_E), gB l3_1 0 39 → gB l4_1 0 1000000 → RS D I P F_1 γ el → rStr γ [] F F_1 → l3_1.toInt < γ 6 (γ 1 q1) → (fI (F_1 q0) 26).toInt ≤ a2.toInt → fR (F_1 q1) 0 = x1 → x2 = el x1 l3_1.toInt.toNat → fI (F_1 x1) 2 = x3 → tr_RCode_get l3_1 x3 → fI (F_1 q0) 26 = x4 → x4.toInt ≠ a2.toInt → x5.toInt = x4.toInt + 1 → (∀ b, b ≠ q0 → x6 b = F_1 b) → x6 q0 = cF (F_1 q0) 26 (.int x5) → fR (x6 x2) 0 = x7 → x8.toInt = (γ 2 x7 : Int) → fI (x6 x7) 2 = x8 → l4_1.toInt < x8.toInt → x9 = el x7 l4_1.toInt.toNat → tr_RArrayList_get l4_1 x8 → gB x10 (-1) 5 → RS D I P x11 γ el → rStr γ [] x6 x11 → (fI (x11 q0) 26).toInt = (fI (x6 q0) 26).toInt → (fI (x11 q0) 32).toInt = (fI (x6 q0) 32).toInt → tr_RModel_step D I γ el x6 q0 x9 x10 x11 → 0 ≤ x10.toInt → R F_1 l3_1 l4_1 118 x10 x11) →
  (∀ (F_1 : Nat → va_E) (l3_1 : Int32) (l4_1 : Int32) (x1 : Nat) (x2 : Nat) (x3 : Int32) (x4 : Int32), gB l3_1 0 39 → gB l4_1 0 1000000 → RS D I P F_1 γ el → rStr γ [] F F_1 → l3_1.toInt < γ 6 (γ 1 q1) → (fI (F_1 q0) 26).toInt ≤ a2.toInt → fR (F_1 q1) 0 = x1 → x2 = el x1 l3_1.toInt.toNat → fI (F_1 x1) 2 = x3 → tr_RCode_get l3_1 x3 → fI (F_1 q0) 26 = x4 → x4.toInt = a2.toInt → R F_1 l3_1 l4_1 69 (fun _ => 0 : Nat) F_1) →
  R s1 s2 s3 k e1 e2
/- tl_RModel_run_2: F, l3; out: F -/
def tl_RModel_run_2 (D : va_G) (I : FieldType → ClassId) (γ el : Nat → Nat → Nat) (P : List Nat) (F : Nat → va_E) (q0 : Nat) (s1 : Nat → va_E) (s2 : Int32) (k : Nat) (e1 : Nat → va_E) : Prop := ∀ R : (Nat → va_E) → (Int32) → Nat → (Nat → va_E) → Prop,
  (∀ (F_1 : Nat → va_E) (l3_1 : Int32), gB l3_1 0 2000 → RS D I P F_1 γ el → rStr γ [] F F_1 → 2000 ≤ l3_1.toInt → R F_1 l3_1 29 F_1) →
  (∀ (F_1 : Nat → va_E) (l3_1 : Int32) (x1 : Nat → Int32) (x2 : Nat → Int32) (x3 : Nat → va_E) (x4 : Nat → Int32) (x5 : Nat → Int32) (x6 : Nat → va_E) (x7 : Int32) (k : Nat) (e1 : Nat → va_E), gB l3_1 0 2000 → RS D I P F_1 γ el → rStr γ [] F F_1 → l3_1.toInt < 2000 → fR (F_1 q0) 20 = (γ 9 20) → F_1 (γ 9 20) = .inl (I .int, 2000, .inl x1) → x2 = upd x1 l3_1.toNatClampNeg 0 → (∀ b, b ≠ (γ 9 20) → x3 b = F_1 b) → x3 (γ 9 20) = .inl (I .int, 2000, .inl x2) → fR (x3 q0) 21 = (γ 9 21) → x3 (γ 9 21) = .inl (I .int, 2000, .inl x4) → x5 = upd x4 l3_1.toNatClampNeg 0 → (∀ b, b ≠ (γ 9 21) → x6 b = x3 b) → x6 (γ 9 21) = .inl (I .int, 2000, .inl x5) → x7.toInt = l3_1.toInt + 1 → R x6 x7 k e1 → R F_1 l3_1 k e1) →
  R s1 s2 k e1
/- tr_RModel_run: result, F -/
def tr_RModel_run (D : va_G) (I : FieldType → ClassId) (γ el : Nat → Nat → Nat) (P : List Nat) (F : Nat → va_E) (q0 : Nat) (q1 : Nat) (a2 : Int32) (o1 : Int32) (o2 : Nat → va_E) : Prop := ∀ R : (Int32) → (Nat → va_E) → Prop,
  (∀ (x1 : Nat → va_E) (x2 : Nat → va_E) (x3 : Nat → va_E) (x4 : Nat → va_E) (x5 : Nat → va_E) (x6 : Nat) (x7 : Nat → va_E) (x8 : Int32) (x9 : Int32) (x10 : Int32) (x11 : Nat → va_E), tl_RModel_run_2 D I γ el P F q0 F (0 : Int32) 29 x1 → (∀ b, b ≠ q0 → x2 b = x1 b) → x2 q0 = cF (x1 q0) 24 (.int 0) → (∀ b, b ≠ q0 → x3 b = x2 b) → x3 q0 = cF (x2 q0) 25 (.int 0) → (∀ b, b ≠ q0 → x4 b = x3 b) → x4 q0 = cF (x3 q0) 26 (.int 0) → (∀ b, b ≠ q0 → x5 b = x4 b) → x5 q0 = cF (x4 q0) 27 (.int 0) → tl_RModel_run_54 D I γ el P F q1 q0 a2 x5 (0 : Int32) (0 : Int32) 144 x6 x7 → fI (x7 x6) 5 = x8 → fI (x7 x6) 2 = x9 → tr_RModel_value D I γ el x7 q0 x8 x9 x10 → (∀ b, b ≠ q0 → x11 b = x7 b) → x11 q0 = cF (x7 q0) 24 (.int x10) → R (0 : Int32) x11) →
  (∀ (x1 : Nat → va_E) (x2 : Nat → va_E) (x3 : Nat → va_E) (x4 : Nat → va_E) (x5 : Nat → va_E) (x6 : Int32) (x7 : Nat → va_E), tl_RModel_run_2 D I γ el P F q0 F (0 : Int32) 29 x1 → (∀ b, b ≠ q0 → x2 b = x1 b) → x2 q0 = cF (x1 q0) 24 (.int 0) → (∀ b, b ≠ q0 → x3 b = x2 b) → x3 q0 = cF (x2 q0) 25 (.int 0) → (∀ b, b ≠ q0 → x4 b = x3 b) → x4 q0 = cF (x3 q0) 26 (.int 0) → (∀ b, b ≠ q0 → x5 b = x4 b) → x5 q0 = cF (x4 q0) 27 (.int 0) → tl_RModel_run_54 D I γ el P F q1 q0 a2 x5 (0 : Int32) (0 : Int32) 118 x6 x7 → R x6 x7) →
  (∀ (x1 : Nat → va_E) (x2 : Nat → va_E) (x3 : Nat → va_E) (x4 : Nat → va_E) (x5 : Nat → va_E) (x6 : Nat → va_E), tl_RModel_run_2 D I γ el P F q0 F (0 : Int32) 29 x1 → (∀ b, b ≠ q0 → x2 b = x1 b) → x2 q0 = cF (x1 q0) 24 (.int 0) → (∀ b, b ≠ q0 → x3 b = x2 b) → x3 q0 = cF (x2 q0) 25 (.int 0) → (∀ b, b ≠ q0 → x4 b = x3 b) → x4 q0 = cF (x3 q0) 26 (.int 0) → (∀ b, b ≠ q0 → x5 b = x4 b) → x5 q0 = cF (x4 q0) 27 (.int 0) → (tl_RModel_run_54 D I γ el P F q1 q0 a2 x5 (0 : Int32) (0 : Int32) 69 (fun _ => 0 : Nat) x6) → R (4 : Int32) x6) →
  R o1 o2
