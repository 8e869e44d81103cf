theorem dr_cX17_back_0 : decode cX17_back 0 = .ok (.aload_n 1, 1) := by decide +kernel
theorem dr_cX17_back_1 : decode cX17_back 1 = .ok (.iload_n 2, 1) := by decide +kernel
theorem dr_cX17_back_2 : decode cX17_back 2 = .ok (.invokestatic 55, 3) := by decide +kernel
theorem wr_10_178 : (Jvm.Cond.methodLink "SpillForgeModel" (55 : Nat) ({ cls := "SpillForgeModel", name := "setOf", desc := "(LSpillForgeModel$Row;Z)I" } : Jvm.MethodName)) ∈ gw := gw_10 178 rfl rfl
theorem wr_1_14 : (Jvm.Cond.initialized "SpillForgeModel") ∈ gw := gw_1 14 rfl rfl
theorem wr_10_180 : (Jvm.Cond.code ({ cls := "SpillForgeModel", name := "setOf", desc := "(LSpillForgeModel$Row;Z)I" } : Jvm.MethodName) prog_14_method_6_code (2 : Nat) (Option.some Jvm.ClassFile.FieldType.int)) ∈ gw := gw_10 180 rfl rfl
theorem wr_10_179 : (Jvm.Cond.static ({ cls := "SpillForgeModel", name := "setOf", desc := "(LSpillForgeModel$Row;Z)I" } : Jvm.MethodName)) ∈ gw := gw_10 179 rfl rfl
theorem dr_cX17_back_5 : decode cX17_back 5 = .ok (.istore_n 3, 1) := by decide +kernel
theorem dr_cX17_back_6 : decode cX17_back 6 = .ok (.iload_n 3, 1) := by decide +kernel
theorem dr_cX17_back_7 : decode cX17_back 7 = .ok (.ifCond .lt 11, 3) := by decide +kernel
theorem dr_cX17_back_18 : decode cX17_back 18 = .ok (.iload_n 2, 1) := by decide +kernel
theorem dr_cX17_back_19 : decode cX17_back 19 = .ok (.ifCond .eq 24, 3) := by decide +kernel
theorem dr_cX17_back_43 : decode cX17_back 43 = .ok (.aload_n 1, 1) := by decide +kernel
theorem dr_cX17_back_44 : decode cX17_back 44 = .ok (.invokevirtual 70, 3) := by decide +kernel
theorem wr_10_192 : (Jvm.Cond.methodLink "SpillForgeModel" (70 : Nat) ({ cls := "SpillForgeModel$Row", name := "usesA", desc := "()Z" } : Jvm.MethodName)) ∈ gw := gw_10 192 rfl rfl
theorem wr_10_195 : (Jvm.Cond.code ({ cls := "SpillForgeModel$Row", name := "usesA", desc := "()Z" } : Jvm.MethodName) prog_18_method_3_code (1 : Nat) (Option.some Jvm.ClassFile.FieldType.boolean)) ∈ gw := gw_10 195 rfl rfl
theorem wr_10_193 : (Jvm.Cond.instanceMethod ({ cls := "SpillForgeModel$Row", name := "usesA", desc := "()Z" } : Jvm.MethodName)) ∈ gw := gw_10 193 rfl rfl
theorem wr_10_194 : (Jvm.Cond.selects "SpillForgeModel$Row" ({ cls := "SpillForgeModel$Row", name := "usesA", desc := "()Z" } : Jvm.MethodName) ({ cls := "SpillForgeModel$Row", name := "usesA", desc := "()Z" } : Jvm.MethodName)) ∈ gw := gw_10 194 rfl rfl
theorem dr_cX17_back_47 : decode cX17_back 47 = .ok (.ifCond .eq 14, 3) := by decide +kernel
theorem dr_cX17_back_61 : decode cX17_back 61 = .ok (.aload_n 1, 1) := by decide +kernel
theorem dr_cX17_back_62 : decode cX17_back 62 = .ok (.invokevirtual 76, 3) := by decide +kernel
theorem wr_10_196 : (Jvm.Cond.methodLink "SpillForgeModel" (76 : Nat) ({ cls := "SpillForgeModel$Row", name := "usesB", desc := "()Z" } : Jvm.MethodName)) ∈ gw := gw_10 196 rfl rfl
theorem wr_10_199 : (Jvm.Cond.code ({ cls := "SpillForgeModel$Row", name := "usesB", desc := "()Z" } : Jvm.MethodName) prog_18_method_4_code (1 : Nat) (Option.some Jvm.ClassFile.FieldType.boolean)) ∈ gw := gw_10 199 rfl rfl
theorem wr_10_197 : (Jvm.Cond.instanceMethod ({ cls := "SpillForgeModel$Row", name := "usesB", desc := "()Z" } : Jvm.MethodName)) ∈ gw := gw_10 197 rfl rfl
theorem wr_10_198 : (Jvm.Cond.selects "SpillForgeModel$Row" ({ cls := "SpillForgeModel$Row", name := "usesB", desc := "()Z" } : Jvm.MethodName) ({ cls := "SpillForgeModel$Row", name := "usesB", desc := "()Z" } : Jvm.MethodName)) ∈ gw := gw_10 198 rfl rfl
theorem dr_cX17_back_65 : decode cX17_back 65 = .ok (.ifCond .eq 14, 3) := by decide +kernel
theorem dr_cX17_back_79 : decode cX17_back 79 = .ok (.return_, 1) := by decide +kernel
theorem dr_cX17_back_68 : decode cX17_back 68 = .ok (.aload_n 0, 1) := by decide +kernel
theorem dr_cX17_back_69 : decode cX17_back 69 = .ok (.getfield 59, 3) := by decide +kernel
theorem wr_7_76 : (Jvm.Cond.fieldLink "SpillForgeModel" (59 : Nat) "SpillForgeModel" "now" "[J") ∈ gw := gw_7 76 rfl rfl
theorem dr_cX17_back_72 : decode cX17_back 72 = .ok (.aload_n 1, 1) := by decide +kernel
theorem dr_cX17_back_73 : decode cX17_back 73 = .ok (.getfield 79, 3) := by decide +kernel
theorem wr_9_190 : (Jvm.Cond.fieldLink "SpillForgeModel" (79 : Nat) "SpillForgeModel$Row" "b" "I") ∈ gw := gw_9 190 rfl rfl
theorem dr_cX17_back_76 : decode cX17_back 76 = .ok (.invokestatic 67, 3) := by decide +kernel
theorem wr_10_189 : (Jvm.Cond.methodLink "SpillForgeModel" (67 : Nat) ({ cls := "SpillForgeModel", name := "set", desc := "([JI)V" } : Jvm.MethodName)) ∈ gw := gw_10 189 rfl rfl
theorem wr_10_191 : (Jvm.Cond.code ({ cls := "SpillForgeModel", name := "set", desc := "([JI)V" } : Jvm.MethodName) prog_14_method_3_code (2 : Nat) (Option.none : Option Jvm.ClassFile.FieldType)) ∈ gw := gw_10 191 rfl rfl
theorem wr_10_190 : (Jvm.Cond.static ({ cls := "SpillForgeModel", name := "set", desc := "([JI)V" } : Jvm.MethodName)) ∈ gw := gw_10 190 rfl rfl
theorem dr_cX17_back_50 : decode cX17_back 50 = .ok (.aload_n 0, 1) := by decide +kernel
theorem dr_cX17_back_51 : decode cX17_back 51 = .ok (.getfield 59, 3) := by decide +kernel
theorem dr_cX17_back_54 : decode cX17_back 54 = .ok (.aload_n 1, 1) := by decide +kernel
theorem dr_cX17_back_55 : decode cX17_back 55 = .ok (.getfield 73, 3) := by decide +kernel
theorem wr_9_186 : (Jvm.Cond.fieldLink "SpillForgeModel" (73 : Nat) "SpillForgeModel$Row" "a" "I") ∈ gw := gw_9 186 rfl rfl
theorem dr_cX17_back_58 : decode cX17_back 58 = .ok (.invokestatic 67, 3) := by decide +kernel
theorem dr_cX17_back_22 : decode cX17_back 22 = .ok (.aload_n 1, 1) := by decide +kernel
theorem dr_cX17_back_23 : decode cX17_back 23 = .ok (.getfield 39, 3) := by decide +kernel
theorem dr_cX17_back_26 : decode cX17_back 26 = .ok (.bipush 21, 2) := by decide +kernel
theorem dr_cX17_back_28 : decode cX17_back 28 = .ok (.if_icmp .ne 14, 3) := by decide +kernel
theorem dr_cX17_back_42 : decode cX17_back 42 = .ok (.return_, 1) := by decide +kernel
theorem dr_cX17_back_31 : decode cX17_back 31 = .ok (.aload_n 0, 1) := by decide +kernel
theorem dr_cX17_back_32 : decode cX17_back 32 = .ok (.getfield 59, 3) := by decide +kernel
theorem dr_cX17_back_35 : decode cX17_back 35 = .ok (.aload_n 1, 1) := by decide +kernel
theorem dr_cX17_back_36 : decode cX17_back 36 = .ok (.getfield 45, 3) := by decide +kernel
theorem dr_cX17_back_39 : decode cX17_back 39 = .ok (.invokestatic 67, 3) := by decide +kernel
theorem dr_cX17_back_10 : decode cX17_back 10 = .ok (.aload_n 0, 1) := by decide +kernel
theorem dr_cX17_back_11 : decode cX17_back 11 = .ok (.getfield 59, 3) := by decide +kernel
theorem dr_cX17_back_14 : decode cX17_back 14 = .ok (.iload_n 3, 1) := by decide +kernel
theorem dr_cX17_back_15 : decode cX17_back 15 = .ok (.invokestatic 63, 3) := by decide +kernel
theorem wr_10_185 : (Jvm.Cond.methodLink "SpillForgeModel" (63 : Nat) ({ cls := "SpillForgeModel", name := "clear", desc := "([JI)V" } : Jvm.MethodName)) ∈ gw := gw_10 185 rfl rfl
theorem wr_10_187 : (Jvm.Cond.code ({ cls := "SpillForgeModel", name := "clear", desc := "([JI)V" } : Jvm.MethodName) prog_14_method_4_code (2 : Nat) (Option.none : Option Jvm.ClassFile.FieldType)) ∈ gw := gw_10 187 rfl rfl
theorem wr_10_186 : (Jvm.Cond.static ({ cls := "SpillForgeModel", name := "clear", desc := "([JI)V" } : Jvm.MethodName)) ∈ gw := gw_10 186 rfl rfl
theorem dr_cX17_stand_0 : decode cX17_stand 0 = .ok (.aload_n 1, 1) := by decide +kernel
theorem dr_cX17_stand_1 : decode cX17_stand 1 = .ok (.iload_n 2, 1) := by decide +kernel
theorem dr_cX17_stand_2 : decode cX17_stand 2 = .ok (.invokestatic 55, 3) := by decide +kernel
theorem dr_cX17_stand_5 : decode cX17_stand 5 = .ok (.istore_n 3, 1) := by decide +kernel
theorem dr_cX17_stand_6 : decode cX17_stand 6 = .ok (.iload_n 3, 1) := by decide +kernel
theorem dr_cX17_stand_7 : decode cX17_stand 7 = .ok (.ifCond .lt 10, 3) := by decide +kernel
theorem dr_cX17_stand_17 : decode cX17_stand 17 = .ok (.iload_n 2, 1) := by decide +kernel
theorem dr_cX17_stand_18 : decode cX17_stand 18 = .ok (.ifCond .eq 23, 3) := by decide +kernel
theorem dr_cX17_stand_41 : decode cX17_stand 41 = .ok (.aload_n 1, 1) := by decide +kernel
theorem dr_cX17_stand_42 : decode cX17_stand 42 = .ok (.invokevirtual 70, 3) := by decide +kernel
theorem dr_cX17_stand_45 : decode cX17_stand 45 = .ok (.ifCond .eq 13, 3) := by decide +kernel
theorem dr_cX17_stand_58 : decode cX17_stand 58 = .ok (.aload_n 1, 1) := by decide +kernel
theorem dr_cX17_stand_59 : decode cX17_stand 59 = .ok (.invokevirtual 76, 3) := by decide +kernel
theorem dr_cX17_stand_62 : decode cX17_stand 62 = .ok (.ifCond .eq 13, 3) := by decide +kernel
theorem dr_cX17_stand_75 : decode cX17_stand 75 = .ok (.return_, 1) := by decide +kernel
theorem dr_cX17_stand_65 : decode cX17_stand 65 = .ok (.aload_n 0, 1) := by decide +kernel
theorem dr_cX17_stand_66 : decode cX17_stand 66 = .ok (.getfield 131, 3) := by decide +kernel
theorem wr_7_77 : (Jvm.Cond.fieldLink "SpillForgeModel" (131 : Nat) "SpillForgeModel" "stands" "[Z") ∈ gw := gw_7 77 rfl rfl
theorem dr_cX17_stand_69 : decode cX17_stand 69 = .ok (.aload_n 1, 1) := by decide +kernel
theorem dr_cX17_stand_70 : decode cX17_stand 70 = .ok (.getfield 79, 3) := by decide +kernel
theorem dr_cX17_stand_73 : decode cX17_stand 73 = .ok (.iconst 1, 1) := by decide +kernel
theorem dr_cX17_stand_74 : decode cX17_stand 74 = .ok (.bastore, 1) := by decide +kernel
theorem dr_cX17_stand_48 : decode cX17_stand 48 = .ok (.aload_n 0, 1) := by decide +kernel
theorem dr_cX17_stand_49 : decode cX17_stand 49 = .ok (.getfield 131, 3) := by decide +kernel
theorem dr_cX17_stand_52 : decode cX17_stand 52 = .ok (.aload_n 1, 1) := by decide +kernel
theorem dr_cX17_stand_53 : decode cX17_stand 53 = .ok (.getfield 73, 3) := by decide +kernel
theorem dr_cX17_stand_56 : decode cX17_stand 56 = .ok (.iconst 1, 1) := by decide +kernel
theorem dr_cX17_stand_57 : decode cX17_stand 57 = .ok (.bastore, 1) := by decide +kernel
theorem dr_cX17_stand_21 : decode cX17_stand 21 = .ok (.aload_n 1, 1) := by decide +kernel
theorem dr_cX17_stand_22 : decode cX17_stand 22 = .ok (.getfield 39, 3) := by decide +kernel
theorem dr_cX17_stand_25 : decode cX17_stand 25 = .ok (.bipush 21, 2) := by decide +kernel
theorem dr_cX17_stand_27 : decode cX17_stand 27 = .ok (.if_icmp .ne 13, 3) := by decide +kernel
theorem dr_cX17_stand_40 : decode cX17_stand 40 = .ok (.return_, 1) := by decide +kernel
theorem dr_cX17_stand_30 : decode cX17_stand 30 = .ok (.aload_n 0, 1) := by decide +kernel
theorem dr_cX17_stand_31 : decode cX17_stand 31 = .ok (.getfield 131, 3) := by decide +kernel
theorem dr_cX17_stand_34 : decode cX17_stand 34 = .ok (.aload_n 1, 1) := by decide +kernel
theorem dr_cX17_stand_35 : decode cX17_stand 35 = .ok (.getfield 45, 3) := by decide +kernel
theorem dr_cX17_stand_38 : decode cX17_stand 38 = .ok (.iconst 1, 1) := by decide +kernel
theorem dr_cX17_stand_39 : decode cX17_stand 39 = .ok (.bastore, 1) := by decide +kernel
theorem dr_cX17_stand_10 : decode cX17_stand 10 = .ok (.aload_n 0, 1) := by decide +kernel
theorem dr_cX17_stand_11 : decode cX17_stand 11 = .ok (.getfield 131, 3) := by decide +kernel
theorem dr_cX17_stand_14 : decode cX17_stand 14 = .ok (.iload_n 3, 1) := by decide +kernel
theorem dr_cX17_stand_15 : decode cX17_stand 15 = .ok (.iconst 1, 1) := by decide +kernel
theorem dr_cX17_stand_16 : decode cX17_stand 16 = .ok (.bastore, 1) := by decide +kernel
/- tr_RModel_back: F -/
def tr_RModel_back (D : va_G) (I : FieldType → ClassId) (γ el : Nat → Nat → Nat) (P : List Nat) (F : Nat → va_E) (q0 : Nat) (q1 : Nat) (a2 : Int32) (o1 : Nat → va_E) : Prop := ∀ R : (Nat → va_E) → Prop,
  (∀ (x1 : Int32) (x2 : Int32) (x3 : Int32) (x4 : Int32) (x5 : Int32) (x6 : Int32) (x7 : Int32) (x8 : Int32), fI (F q1) 0 = x1 → fI (F q1) 1 = x2 → fI (F q1) 4 = x3 → gB x4 (-1) 1999 → tr_RModel_setOf a2 x1 x2 x3 x4 → x4.toInt < 0 → a2.toInt = 0 → fI (F q1) 5 = x5 → gB x6 0 1 → tr_RRow_usesA x1 x5 x6 → x6.toInt = 0 → fI (F q1) 6 = x7 → gB x8 0 1 → tr_RRow_usesB x1 x7 x8 → x8.toInt = 0 → R F) →
  (∀ (x1 : Int32) (x2 : Int32) (x3 : Int32) (x4 : Int32) (x5 : Int32) (x6 : Int32) (x7 : Int32) (x8 : Int32) (x9 : Int32) (x10 : Nat → Int64) (x11 : Nat → Int64) (x12 : Nat → va_E), fI (F q1) 0 = x1 → fI (F q1) 1 = x2 → fI (F q1) 4 = x3 → gB x4 (-1) 1999 → tr_RModel_setOf a2 x1 x2 x3 x4 → x4.toInt < 0 → a2.toInt = 0 → fI (F q1) 5 = x5 → gB x6 0 1 → tr_RRow_usesA x1 x5 x6 → x6.toInt = 0 → fI (F q1) 6 = x7 → gB x8 0 1 → tr_RRow_usesB x1 x7 x8 → x8.toInt ≠ 0 → fR (F q0) 2 = (γ 9 2) → fI (F q1) 3 = x9 → F (γ 9 2) = .inl (I .long, 32, .inr (.inl x10)) → tr_RModel_set x9 x10 x11 → rFr [(γ 9 2)] P F x12 → x12 (γ 9 2) = .inl (I .long, 32, .inr (.inl x11)) → RS D I P x12 γ el → R x12) →
  (∀ (x1 : Int32) (x2 : Int32) (x3 : Int32) (x4 : Int32) (x5 : Int32) (x6 : Int32) (x7 : Int32) (x8 : Nat → Int64) (x9 : Nat → Int64) (x10 : Nat → va_E) (x11 : Int32) (x12 : Int32), fI (F q1) 0 = x1 → fI (F q1) 1 = x2 → fI (F q1) 4 = x3 → gB x4 (-1) 1999 → tr_RModel_setOf a2 x1 x2 x3 x4 → x4.toInt < 0 → a2.toInt = 0 → fI (F q1) 5 = x5 → gB x6 0 1 → tr_RRow_usesA x1 x5 x6 → x6.toInt ≠ 0 → fR (F q0) 2 = (γ 9 2) → fI (F q1) 2 = x7 → F (γ 9 2) = .inl (I .long, 32, .inr (.inl x8)) → tr_RModel_set x7 x8 x9 → rFr [(γ 9 2)] P F x10 → x10 (γ 9 2) = .inl (I .long, 32, .inr (.inl x9)) → RS D I P x10 γ el → fI (x10 q1) 0 = x1 → fI (x10 q1) 6 = x11 → gB x12 0 1 → tr_RRow_usesB x1 x11 x12 → x12.toInt = 0 → R x10) →
  (∀ (x1 : Int32) (x2 : Int32) (x3 : Int32) (x4 : Int32) (x5 : Int32) (x6 : Int32) (x7 : Int32) (x8 : Nat → Int64) (x9 : Nat → Int64) (x10 : Nat → va_E) (x11 : Int32) (x12 : Int32) (x13 : Int32) (x14 : Nat → Int64) (x15 : Nat → va_E), fI (F q1) 0 = x1 → fI (F q1) 1 = x2 → fI (F q1) 4 = x3 → gB x4 (-1) 1999 → tr_RModel_setOf a2 x1 x2 x3 x4 → x4.toInt < 0 → a2.toInt = 0 → fI (F q1) 5 = x5 → gB x6 0 1 → tr_RRow_usesA x1 x5 x6 → x6.toInt ≠ 0 → fR (F q0) 2 = (γ 9 2) → fI (F q1) 2 = x7 → F (γ 9 2) = .inl (I .long, 32, .inr (.inl x8)) → tr_RModel_set x7 x8 x9 → rFr [(γ 9 2)] P F x10 → x10 (γ 9 2) = .inl (I .long, 32, .inr (.inl x9)) → RS D I P x10 γ el → fI (x10 q1) 0 = x1 → fI (x10 q1) 6 = x11 → gB x12 0 1 → tr_RRow_usesB x1 x11 x12 → x12.toInt ≠ 0 → fR (x10 q0) 2 = (γ 9 2) → fI (x10 q1) 3 = x13 → x10 (γ 9 2) = .inl (I .long, 32, .inr (.inl x9)) → tr_RModel_set x13 x9 x14 → rFr [(γ 9 2)] P x10 x15 → x15 (γ 9 2) = .inl (I .long, 32, .inr (.inl x14)) → RS D I P x15 γ el → R x15) →
  (∀ (x1 : Int32) (x2 : Int32) (x3 : Int32) (x4 : Int32), fI (F q1) 0 = x1 → fI (F q1) 1 = x2 → fI (F q1) 4 = x3 → gB x4 (-1) 1999 → tr_RModel_setOf a2 x1 x2 x3 x4 → x4.toInt < 0 → a2.toInt ≠ 0 → x1.toInt ≠ 21 → R F) →
  (∀ (x1 : Int32) (x2 : Int32) (x3 : Int32) (x4 : Int32) (x5 : Nat → Int64) (x6 : Nat → Int64) (x7 : Nat → va_E), fI (F q1) 0 = x1 → fI (F q1) 1 = x2 → fI (F q1) 4 = x3 → gB x4 (-1) 1999 → tr_RModel_setOf a2 x1 x2 x3 x4 → x4.toInt < 0 → a2.toInt ≠ 0 → x1.toInt = 21 → fR (F q0) 2 = (γ 9 2) → F (γ 9 2) = .inl (I .long, 32, .inr (.inl x5)) → tr_RModel_set x3 x5 x6 → rFr [(γ 9 2)] P F x7 → x7 (γ 9 2) = .inl (I .long, 32, .inr (.inl x6)) → RS D I P x7 γ el → R x7) →
  (∀ (x1 : Int32) (x2 : Int32) (x3 : Int32) (x4 : Int32) (x5 : Nat → Int64) (x6 : Nat → Int64) (x7 : Nat → va_E) (x8 : Int32) (x9 : Int32) (x10 : Int32) (x11 : Int32), fI (F q1) 0 = x1 → fI (F q1) 1 = x2 → fI (F q1) 4 = x3 → gB x4 (-1) 1999 → tr_RModel_setOf a2 x1 x2 x3 x4 → 0 ≤ x4.toInt → fR (F q0) 2 = (γ 9 2) → F (γ 9 2) = .inl (I .long, 32, .inr (.inl x5)) → tr_RModel_clear x4 x5 x6 → rFr [(γ 9 2)] P F x7 → x7 (γ 9 2) = .inl (I .long, 32, .inr (.inl x6)) → RS D I P x7 γ el → a2.toInt = 0 → fI (x7 q1) 0 = x1 → fI (x7 q1) 5 = x8 → gB x9 0 1 → tr_RRow_usesA x1 x8 x9 → x9.toInt = 0 → fI (x7 q1) 6 = x10 → gB x11 0 1 → tr_RRow_usesB x1 x10 x11 → x11.toInt = 0 → R x7) →
  (∀ (x1 : Int32) (x2 : Int32) (x3 : Int32) (x4 : Int32) (x5 : Nat → Int64) (x6 : Nat → Int64) (x7 : Nat → va_E) (x8 : Int32) (x9 : Int32) (x10 : Int32) (x11 : Int32) (x12 : Int32) (x13 : Nat → Int64) (x14 : Nat → va_E), fI (F q1) 0 = x1 → fI (F q1) 1 = x2 → fI (F q1) 4 = x3 → gB x4 (-1) 1999 → tr_RModel_setOf a2 x1 x2 x3 x4 → 0 ≤ x4.toInt → fR (F q0) 2 = (γ 9 2) → F (γ 9 2) = .inl (I .long, 32, .inr (.inl x5)) → tr_RModel_clear x4 x5 x6 → rFr [(γ 9 2)] P F x7 → x7 (γ 9 2) = .inl (I .long, 32, .inr (.inl x6)) → RS D I P x7 γ el → a2.toInt = 0 → fI (x7 q1) 0 = x1 → fI (x7 q1) 5 = x8 → gB x9 0 1 → tr_RRow_usesA x1 x8 x9 → x9.toInt = 0 → fI (x7 q1) 6 = x10 → gB x11 0 1 → tr_RRow_usesB x1 x10 x11 → x11.toInt ≠ 0 → fR (x7 q0) 2 = (γ 9 2) → fI (x7 q1) 3 = x12 → x7 (γ 9 2) = .inl (I .long, 32, .inr (.inl x6)) → tr_RModel_set x12 x6 x13 → rFr [(γ 9 2)] P x7 x14 → x14 (γ 9 2) = .inl (I .long, 32, .inr (.inl x13)) → RS D I P x14 γ el → R x14) →
  (∀ (x1 : Int32) (x2 : Int32) (x3 : Int32) (x4 : Int32) (x5 : Nat → Int64) (x6 : Nat → Int64) (x7 : Nat → va_E) (x8 : Int32) (x9 : Int32) (x10 : Int32) (x11 : Nat → Int64) (x12 : Nat → va_E) (x13 : Int32) (x14 : Int32), fI (F q1) 0 = x1 → fI (F q1) 1 = x2 → fI (F q1) 4 = x3 → gB x4 (-1) 1999 → tr_RModel_setOf a2 x1 x2 x3 x4 → 0 ≤ x4.toInt → fR (F q0) 2 = (γ 9 2) → F (γ 9 2) = .inl (I .long, 32, .inr (.inl x5)) → tr_RModel_clear x4 x5 x6 → rFr [(γ 9 2)] P F x7 → x7 (γ 9 2) = .inl (I .long, 32, .inr (.inl x6)) → RS D I P x7 γ el → a2.toInt = 0 → fI (x7 q1) 0 = x1 → fI (x7 q1) 5 = x8 → gB x9 0 1 → tr_RRow_usesA x1 x8 x9 → x9.toInt ≠ 0 → fR (x7 q0) 2 = (γ 9 2) → fI (x7 q1) 2 = x10 → x7 (γ 9 2) = .inl (I .long, 32, .inr (.inl x6)) → tr_RModel_set x10 x6 x11 → rFr [(γ 9 2)] P x7 x12 → x12 (γ 9 2) = .inl (I .long, 32, .inr (.inl x11)) → RS D I P x12 γ el → fI (x12 q1) 0 = x1 → fI (x12 q1) 6 = x13 → gB x14 0 1 → tr_RRow_usesB x1 x13 x14 → x14.toInt = 0 → R x12) →
  (∀ (x1 : Int32) (x2 : Int32) (x3 : Int32) (x4 : Int32) (x5 : Nat → Int64) (x6 : Nat → Int64) (x7 : Nat → va_E) (x8 : Int32) (x9 : Int32) (x10 : Int32) (x11 : Nat → Int64) (x12 : Nat → va_E) (x13 : Int32) (x14 : Int32) (x15 : Int32) (x16 : Nat → Int64) (x17 : Nat → va_E), fI (F q1) 0 = x1 → fI (F q1) 1 = x2 → fI (F q1) 4 = x3 → gB x4 (-1) 1999 → tr_RModel_setOf a2 x1 x2 x3 x4 → 0 ≤ x4.toInt → fR (F q0) 2 = (γ 9 2) → F (γ 9 2) = .inl (I .long, 32, .inr (.inl x5)) → tr_RModel_clear x4 x5 x6 → rFr [(γ 9 2)] P F x7 → x7 (γ 9 2) = .inl (I .long, 32, .inr (.inl x6)) → RS D I P x7 γ el → a2.toInt = 0 → fI (x7 q1) 0 = x1 → fI (x7 q1) 5 = x8 → gB x9 0 1 → tr_RRow_usesA x1 x8 x9 → x9.toInt ≠ 0 → fR (x7 q0) 2 = (γ 9 2) → fI (x7 q1) 2 = x10 → x7 (γ 9 2) = .inl (I .long, 32, .inr (.inl x6)) → tr_RModel_set x10 x6 x11 → rFr [(γ 9 2)] P x7 x12 → x12 (γ 9 2) = .inl (I .long, 32, .inr (.inl x11)) → RS D I P x12 γ el → fI (x12 q1) 0 = x1 → fI (x12 q1) 6 = x13 → gB x14 0 1 → tr_RRow_usesB x1 x13 x14 → x14.toInt ≠ 0 → fR (x12 q0) 2 = (γ 9 2) → fI (x12 q1) 3 = x15 → x12 (γ 9 2) = .inl (I .long, 32, .inr (.inl x11)) → tr_RModel_set x15 x11 x16 → rFr [(γ 9 2)] P x12 x17 → x17 (γ 9 2) = .inl (I .long, 32, .inr (.inl x16)) → RS D I P x17 γ el → R x17) →
  (∀ (x1 : Int32) (x2 : Int32) (x3 : Int32) (x4 : Int32) (x5 : Nat → Int64) (x6 : Nat → Int64) (x7 : Nat → va_E), fI (F q1) 0 = x1 → fI (F q1) 1 = x2 → fI (F q1) 4 = x3 → gB x4 (-1) 1999 → tr_RModel_setOf a2 x1 x2 x3 x4 → 0 ≤ x4.toInt → fR (F q0) 2 = (γ 9 2) → F (γ 9 2) = .inl (I .long, 32, .inr (.inl x5)) → tr_RModel_clear x4 x5 x6 → rFr [(γ 9 2)] P F x7 → x7 (γ 9 2) = .inl (I .long, 32, .inr (.inl x6)) → RS D I P x7 γ el → a2.toInt ≠ 0 → fI (x7 q1) 0 = x1 → x1.toInt ≠ 21 → R x7) →
  (∀ (x1 : Int32) (x2 : Int32) (x3 : Int32) (x4 : Int32) (x5 : Nat → Int64) (x6 : Nat → Int64) (x7 : Nat → va_E) (x8 : Nat → Int64) (x9 : Nat → va_E), fI (F q1) 0 = x1 → fI (F q1) 1 = x2 → fI (F q1) 4 = x3 → gB x4 (-1) 1999 → tr_RModel_setOf a2 x1 x2 x3 x4 → 0 ≤ x4.toInt → fR (F q0) 2 = (γ 9 2) → F (γ 9 2) = .inl (I .long, 32, .inr (.inl x5)) → tr_RModel_clear x4 x5 x6 → rFr [(γ 9 2)] P F x7 → x7 (γ 9 2) = .inl (I .long, 32, .inr (.inl x6)) → RS D I P x7 γ el → a2.toInt ≠ 0 → fI (x7 q1) 0 = x1 → x1.toInt = 21 → fR (x7 q0) 2 = (γ 9 2) → fI (x7 q1) 4 = x3 → x7 (γ 9 2) = .inl (I .long, 32, .inr (.inl x6)) → tr_RModel_set x3 x6 x8 → rFr [(γ 9 2)] P x7 x9 → x9 (γ 9 2) = .inl (I .long, 32, .inr (.inl x8)) → RS D I P x9 γ el → R x9) →
  R o1
abbrev ky_3946_SpillForgeModel_back : gKey := (cX17_back, 4, "SpillForgeModel", none, [], "back", fun _ _ => True)
def pt_3946_SpillForgeModel_back (D : va_G) (I : FieldType → ClassId) (γ el : Nat → Nat → Nat) (P3941 : List Nat) (F3942 : Nat → va_E) (q3943 : Nat) (q3944 : Nat) (p3945 : Int32) : Option Value → va_W → Nat → Nat → Prop := fun r w dc ds => ∃ (F4431 : Nat → va_E), r = none ∧ w = va_pl P3941 F4431 ∧ RS D I P3941 F4431 γ el ∧ rStr γ [] F3942 F4431 ∧ dc ≤ 0 ∧ ds ≤ 0 ∧ tr_RModel_back D I γ el P3941 F3942 q3943 q3944 p3945 F4431
set_option maxRecDepth 100000 in
set_option maxHeartbeats 4000000 in
theorem ct_3946_SpillForgeModel_back (l : Launch) (hl0 : l.stackTraces = false) (D : va_G) (I : FieldType → ClassId) (γ el : Nat → Nat → Nat) (P3941 : List Nat) (F3942 : Nat → va_E) (q3943 : Nat) (q3944 : Nat) (p3945 : Int32) (hT : RS D I P3941 F3942 γ el) (htq3943 : rKd γ q3943 10) (htq3944 : rKd γ q3944 1) (bp3945 : gB p3945 0 1) : CtA (gV D I) l yX17_back cX17_back 4 none 2 41 0 0 [.ref q3943, .ref q3944, .int p3945] (va_pl P3941 F3942) (pt_3946_SpillForgeModel_back D I γ el P3941 F3942 q3943 q3944 p3945) gNA := by
  refine CtA_of hl0 (by decide) (Nat.le_of_ble_eq_true rfl) ?_
  refine G_aload_n 1 dr_cX17_back_0 rfl ?_
  refine G_iload_n 2 dr_cX17_back_1 rfl ?_
  have hm3947 : q3944 ∈ P3941 := RS_m hT htq3944 (by decide)
  obtain ⟨p3949, p3950, p3951, p3952, p3953, p3954, p3955, he3948, bp3949, bp3950, bp3953, bp3954, bp3955, r3956, r3957, r3958, r3959, r3960⟩ := show rk_1 γ q3944 (F3942 q3944) from RS_o hT htq3944
  have bp3951 := gB_any p3951
  have bp3952 := gB_any p3952
  have fq3961 : fI (F3942 q3944) 0 = p3949 := by rw [he3948]; rfl
  have fq3962 : fI (F3942 q3944) 1 = p3950 := by rw [he3948]; rfl
  have fq3963 : fI (F3942 q3944) 4 = p3953 := by rw [he3948]; rfl
  refine Gw_callS (As := [.ref q3944, .int p3945]) (gV_ok D I) (cp_1784_SpillForgeModel_setOf l hl0 D I P3941 F3942 q3944 p3945 p3949 p3950 p3951 p3952 p3953 p3954 p3955 hm3947 he3948 bp3945 bp3949 bp3950 bp3953 bp3954 bp3955) dr_cX17_back_2 ⟨wr_10_178, wr_1_14, wr_10_180, by decide, rfl, (Nat.le_of_ble_eq_true rfl), (Nat.le_of_ble_eq_true rfl)⟩ wr_10_179 (show 0 + 0 ≤ 0 by first | omega | decide) (show 0 + 0 ≤ 0 by first | omega | decide) (Nat.le_of_ble_eq_true rfl) (fun r3967 w3968 dc3964 ds3965 hp3966 => ?_) (fun _ _ _ _ _ z => z.elim)
  obtain ⟨o3969, rfl, rfl, hdc, hds, bo3969, ht3970⟩ := hp3966
  change G _ _ _ _ _ _ _ (.int o3969 :: _) _ _ _
  refine G_widen (cs' := 0) (sl' := 0) (by omega) (by omega) ?_
  refine G_istore_n (L' := [(3, .int o3969), (0, .ref q3943), (1, .ref q3944), (2, .int p3945)]) dr_cX17_back_5 (Nat.le_of_ble_eq_true rfl) rfl ?_
  refine G_iload_n 0 dr_cX17_back_6 rfl ?_
  refine G_if_lt 18 dr_cX17_back_7 (by decide +kernel) (fun hc3971 => ?_) (fun hc3971 => ?_)
  · have r3972 : o3969.toInt < 0 := gj_lt hc3971 (show Int32.toInt 0 = 0 by decide)
    have bo3969' : gB o3969 (-1) (-1) := ⟨by omega, by omega⟩
    refine G_iload_n 3 dr_cX17_back_18 rfl ?_
    refine G_if_eq 43 dr_cX17_back_19 (by decide +kernel) (fun hc3973 => ?_) (fun hc3973 => ?_)
    · have r3974 : p3945.toInt = 0 := gj_eq hc3973 (show Int32.toInt 0 = 0 by decide)
      have bp3945' : gB p3945 0 0 := ⟨by omega, by omega⟩
      refine G_aload_n 2 dr_cX17_back_43 rfl ?_
      have fq3975 : fI (F3942 q3944) 5 = p3954 := by rw [he3948]; rfl
      refine Gw_callV (As := []) (gV_ok D I) (cp_1675_Row_usesA l hl0 D I P3941 F3942 q3944 p3949 p3950 p3951 p3952 p3953 p3954 p3955 hm3947 he3948 bp3949 bp3950 bp3953 bp3954 bp3955) dr_cX17_back_44 ⟨wr_10_192, wr_1_39, wr_10_195, by decide, rfl, (Nat.le_of_ble_eq_true rfl), (Nat.le_of_ble_eq_true rfl)⟩ wr_10_193 wr_10_194 hm3947 he3948 rfl (show 0 + 0 ≤ 0 by first | omega | decide) (show 0 + 0 ≤ 0 by first | omega | decide) (Nat.le_of_ble_eq_true rfl) (fun r3979 w3980 dc3976 ds3977 hp3978 => ?_) (fun _ _ _ _ _ z => z.elim)
      obtain ⟨o3981, rfl, rfl, hdc, hds, bo3981, x3982, ht3983⟩ := hp3978
      change G _ _ _ _ _ _ _ (.int o3981 :: _) _ _ _
      refine G_widen (cs' := 0) (sl' := 0) (by omega) (by omega) ?_
      refine G_if_eq 61 dr_cX17_back_47 (by decide +kernel) (fun hc3984 => ?_) (fun hc3984 => ?_)
      · have r3985 : o3981.toInt = 0 := gj_eq hc3984 (show Int32.toInt 0 = 0 by decide)
        have bo3981' : gB o3981 0 0 := ⟨by omega, by omega⟩
        refine G_aload_n 2 dr_cX17_back_61 rfl ?_
        have fq3986 : fI (F3942 q3944) 6 = p3955 := by rw [he3948]; rfl
        refine Gw_callV (As := []) (gV_ok D I) (cp_1699_Row_usesB l hl0 D I P3941 F3942 q3944 p3949 p3950 p3951 p3952 p3953 p3954 p3955 hm3947 he3948 bp3949 bp3950 bp3953 bp3954 bp3955) dr_cX17_back_62 ⟨wr_10_196, wr_1_39, wr_10_199, by decide, rfl, (Nat.le_of_ble_eq_true rfl), (Nat.le_of_ble_eq_true rfl)⟩ wr_10_197 wr_10_198 hm3947 he3948 rfl (show 0 + 0 ≤ 0 by first | omega | decide) (show 0 + 0 ≤ 0 by first | omega | decide) (Nat.le_of_ble_eq_true rfl) (fun r3990 w3991 dc3987 ds3988 hp3989 => ?_) (fun _ _ _ _ _ z => z.elim)
        obtain ⟨o3992, rfl, rfl, hdc, hds, bo3992, x3993, ht3994⟩ := hp3989
        change G _ _ _ _ _ _ _ (.int o3992 :: _) _ _ _
        refine G_widen (cs' := 0) (sl' := 0) (by omega) (by omega) ?_
        refine G_if_eq 79 dr_cX17_back_65 (by decide +kernel) (fun hc3995 => ?_) (fun hc3995 => ?_)
        · have r3996 : o3992.toInt = 0 := gj_eq hc3995 (show Int32.toInt 0 = 0 by decide)
          have bo3992' : gB o3992 0 0 := ⟨by omega, by omega⟩
          exact G_vretA dr_cX17_back_79 rfl (Nat.le_of_ble_eq_true rfl) (Nat.le_of_ble_eq_true rfl) ⟨F3942, rfl, rfl, hT, (rStr_rf (γ := γ) (W := []) (F := F3942)), (Nat.le_of_ble_eq_true rfl), (Nat.le_of_ble_eq_true rfl), (fun R c1 c2 c3 c4 c5 c6 c7 c8 c9 c10 c11 c12 => c1 p3949 p3950 p3953 o3969 p3954 o3981 p3955 o3992 fq3961 fq3962 fq3963 bo3969 ht3970 r3972 r3974 fq3975 bo3981 ht3983 r3985 fq3986 bo3992 ht3994 r3996)⟩
        · have r3997 : o3992.toInt ≠ 0 := gj_neq hc3995 (show Int32.toInt 0 = 0 by decide)
          have bo3992' : gB o3992 1 1 := ⟨by omega, by omega⟩
          refine G_aload_n 1 dr_cX17_back_68 rfl ?_
          have hm3998 : q3943 ∈ P3941 := RS_m hT htq3943 (by decide)
          obtain ⟨q4000, q4001, p4002, p4003, p4004, p4005, p4006, p4007, p4008, p4009, p4010, p4011, p4012, p4013, p4014, p4015, p4016, he3999, hB4043, ht4017, ht4018, ht4019, ht4020, ht4021, ht4022, ht4023, ht4024, ht4025, ht4026, ht4027, ht4028, ht4029, ht4030, ht4031, ht4032, ht4033, ht4034, ht4035, ht4036, ht4037, ht4038, ht4039, ht4040, hB4044⟩ := show rk_10 γ (F3942 q3943) from RS_o hT htq3943
          have fq4045 : fR (F3942 q3943) 2 = (γ 9 2) := by rw [he3999]; rfl
          refine Gp_get 2 hm3998 he3999 dr_cX17_back_69 (gk_X17 D I) (Nat.le_of_ble_eq_true rfl) wr_7_76 rfl ?_
          refine G_aload_n 2 dr_cX17_back_72 rfl ?_
          have fq4046 : fI (F3942 q3944) 3 = p3952 := by rw [he3948]; rfl
          refine Gp_get 3 hm3947 he3948 dr_cX17_back_73 (gk_X15 D I) (Nat.le_of_ble_eq_true rfl) wr_9_190 rfl ?_
          have hm4047 : (γ 9 2) ∈ P3941 := RS_m hT ht4021 (by decide)
          obtain ⟨f4049, he4048, wf4049⟩ := show rk_35 I (F3942 (γ 9 2)) from RS_o hT ht4021
          refine Gw_callS (As := [.ref (γ 9 2), .int p3952]) (gV_ok D I) (cp_1860_SpillForgeModel_set l hl0 D I P3941 F3942 (γ 9 2) p3952 f4049 hm4047 he4048 ⟨by omega, by omega⟩ wf4049) dr_cX17_back_76 ⟨wr_10_189, wr_1_14, wr_10_191, by decide, rfl, (Nat.le_of_ble_eq_true rfl), (Nat.le_of_ble_eq_true rfl)⟩ wr_10_190 (show 0 + 0 ≤ 0 by first | omega | decide) (show 0 + 0 ≤ 0 by first | omega | decide) (Nat.le_of_ble_eq_true rfl) (fun r4053 w4054 dc4050 ds4051 hp4052 => ?_) (fun _ _ _ _ _ z => z.elim)
          obtain ⟨F4058, f4055, rfl, rfl, hfr4060, he4061, hdc, hds, x4056, ht4057⟩ := hp4052
          have he4062 : F4058 q3944 = .inr (20, [.int p3949, .int p3950, .int p3951, .int p3952, .int p3953, .int p3954, .int p3955]) := (hfr4060 q3944 hm3947 (nm_c (rn_oa he3948 he4048) nm_n)).trans he3948
          have he4063 : F4058 q3943 = .inr (22, [.ref (γ 9 0), .ref (γ 9 1), .ref (γ 9 2), .ref (γ 9 3), .ref (γ 9 4), .ref (γ 9 5), .ref (γ 9 6), .ref (γ 9 7), .ref (γ 9 8), .int p4002, .int p4003, .int p4004, .int p4005, .int p4006, .int p4007, .ref (γ 9 15), .ref (γ 9 16), .ref (γ 9 17), .ref (γ 9 18), .ref (γ 9 19), .ref (γ 9 20), .ref (γ 9 21), .ref (γ 9 22), .int p4008, .int p4009, .int p4010, .int p4011, .int p4012, .ref q4000, .ref (γ 9 29), .int p4013, .ref (γ 9 31), .int p4014, .int p4015, .int p4016, .ref q4001]) := (hfr4060 q3943 hm3998 (nm_c (rn_oa he3999 he4048) nm_n)).trans he3999
          have hfr4064 : rFr [(γ 9 2)] P3941 F3942 F4058 := rFr_call (rSub_rf (P := P3941)) (rFr_rf (W := []) (P := P3941) (F := F3942)) hfr4060 (fun b hb hn => ⟨nm_n, (nm_c (fun e => hn (e ▸ List.mem_cons_self)) nm_n)⟩)
          change G _ _ _ _ _ _ _ _ _ _ _
          refine G_widen (cs' := 0) (sl' := 0) (by omega) (by omega) ?_
          have hT4065 : RS D I P3941 F4058 γ el := RS_fr hT hfr4064 ht4021 (by decide) ⟨f4055, he4061, x4056⟩
          have hs4066 : rStr γ [] F3942 F4058 := rStr_fr hT (rStr_rf (γ := γ) (W := []) (F := F3942)) hfr4064 ht4021 (by decide)
          exact G_vretA dr_cX17_back_79 rfl (Nat.le_of_ble_eq_true rfl) (Nat.le_of_ble_eq_true rfl) ⟨F4058, rfl, rfl, hT4065, hs4066, (Nat.le_of_ble_eq_true rfl), (Nat.le_of_ble_eq_true rfl), (fun R c1 c2 c3 c4 c5 c6 c7 c8 c9 c10 c11 c12 => c2 p3949 p3950 p3953 o3969 p3954 o3981 p3955 o3992 p3952 f4049 f4055 F4058 fq3961 fq3962 fq3963 bo3969 ht3970 r3972 r3974 fq3975 bo3981 ht3983 r3985 fq3986 bo3992 ht3994 r3997 fq4045 fq4046 he4048 ht4057 hfr4064 he4061 hT4065)⟩
      · have r4067 : o3981.toInt ≠ 0 := gj_neq hc3984 (show Int32.toInt 0 = 0 by decide)
        have bo3981' : gB o3981 1 1 := ⟨by omega, by omega⟩
        refine G_aload_n 1 dr_cX17_back_50 rfl ?_
        have hm4068 : q3943 ∈ P3941 := RS_m hT htq3943 (by decide)
        obtain ⟨q4070, q4071, p4072, p4073, p4074, p4075, p4076, p4077, p4078, p4079, p4080, p4081, p4082, p4083, p4084, p4085, p4086, he4069, hB4113, ht4087, ht4088, ht4089, ht4090, ht4091, ht4092, ht4093, ht4094, ht4095, ht4096, ht4097, ht4098, ht4099, ht4100, ht4101, ht4102, ht4103, ht4104, ht4105, ht4106, ht4107, ht4108, ht4109, ht4110, hB4114⟩ := show rk_10 γ (F3942 q3943) from RS_o hT htq3943
        have fq4115 : fR (F3942 q3943) 2 = (γ 9 2) := by rw [he4069]; rfl
        refine Gp_get 2 hm4068 he4069 dr_cX17_back_51 (gk_X17 D I) (Nat.le_of_ble_eq_true rfl) wr_7_76 rfl ?_
        refine G_aload_n 2 dr_cX17_back_54 rfl ?_
        have fq4116 : fI (F3942 q3944) 2 = p3951 := by rw [he3948]; rfl
        refine Gp_get 2 hm3947 he3948 dr_cX17_back_55 (gk_X15 D I) (Nat.le_of_ble_eq_true rfl) wr_9_186 rfl ?_
        have hm4117 : (γ 9 2) ∈ P3941 := RS_m hT ht4091 (by decide)
        obtain ⟨f4119, he4118, wf4119⟩ := show rk_35 I (F3942 (γ 9 2)) from RS_o hT ht4091
        refine Gw_callS (As := [.ref (γ 9 2), .int p3951]) (gV_ok D I) (cp_1860_SpillForgeModel_set l hl0 D I P3941 F3942 (γ 9 2) p3951 f4119 hm4117 he4118 ⟨by omega, by omega⟩ wf4119) dr_cX17_back_58 ⟨wr_10_189, wr_1_14, wr_10_191, by decide, rfl, (Nat.le_of_ble_eq_true rfl), (Nat.le_of_ble_eq_true rfl)⟩ wr_10_190 (show 0 + 0 ≤ 0 by first | omega | decide) (show 0 + 0 ≤ 0 by first | omega | decide) (Nat.le_of_ble_eq_true rfl) (fun r4123 w4124 dc4120 ds4121 hp4122 => ?_) (fun _ _ _ _ _ z => z.elim)
        obtain ⟨F4128, f4125, rfl, rfl, hfr4130, he4131, hdc, hds, x4126, ht4127⟩ := hp4122
        have he4132 : F4128 q3944 = .inr (20, [.int p3949, .int p3950, .int p3951, .int p3952, .int p3953, .int p3954, .int p3955]) := (hfr4130 q3944 hm3947 (nm_c (rn_oa he3948 he4118) nm_n)).trans he3948
        have he4133 : F4128 q3943 = .inr (22, [.ref (γ 9 0), .ref (γ 9 1), .ref (γ 9 2), .ref (γ 9 3), .ref (γ 9 4), .ref (γ 9 5), .ref (γ 9 6), .ref (γ 9 7), .ref (γ 9 8), .int p4072, .int p4073, .int p4074, .int p4075, .int p4076, .int p4077, .ref (γ 9 15), .ref (γ 9 16), .ref (γ 9 17), .ref (γ 9 18), .ref (γ 9 19), .ref (γ 9 20), .ref (γ 9 21), .ref (γ 9 22), .int p4078, .int p4079, .int p4080, .int p4081, .int p4082, .ref q4070, .ref (γ 9 29), .int p4083, .ref (γ 9 31), .int p4084, .int p4085, .int p4086, .ref q4071]) := (hfr4130 q3943 hm4068 (nm_c (rn_oa he4069 he4118) nm_n)).trans he4069
        have hfr4134 : rFr [(γ 9 2)] P3941 F3942 F4128 := rFr_call (rSub_rf (P := P3941)) (rFr_rf (W := []) (P := P3941) (F := F3942)) hfr4130 (fun b hb hn => ⟨nm_n, (nm_c (fun e => hn (e ▸ List.mem_cons_self)) nm_n)⟩)
        change G _ _ _ _ _ _ _ _ _ _ _
        refine G_widen (cs' := 0) (sl' := 0) (by omega) (by omega) ?_
        have hT4135 : RS D I P3941 F4128 γ el := RS_fr hT hfr4134 ht4091 (by decide) ⟨f4125, he4131, x4126⟩
        have hs4136 : rStr γ [] F3942 F4128 := rStr_fr hT (rStr_rf (γ := γ) (W := []) (F := F3942)) hfr4134 ht4091 (by decide)
        refine G_aload_n 2 dr_cX17_back_61 rfl ?_
        have fq4137 : fI (F4128 q3944) 0 = p3949 := by rw [he4132]; rfl
        have fq4138 : fI (F4128 q3944) 6 = p3955 := by rw [he4132]; rfl
        refine Gw_callV (As := []) (gV_ok D I) (cp_1699_Row_usesB l hl0 D I P3941 F4128 q3944 p3949 p3950 p3951 p3952 p3953 p3954 p3955 hm3947 he4132 bp3949 bp3950 bp3953 bp3954 bp3955) dr_cX17_back_62 ⟨wr_10_196, wr_1_39, wr_10_199, by decide, rfl, (Nat.le_of_ble_eq_true rfl), (Nat.le_of_ble_eq_true rfl)⟩ wr_10_197 wr_10_198 hm3947 he4132 rfl (show 0 + 0 ≤ 0 by first | omega | decide) (show 0 + 0 ≤ 0 by first | omega | decide) (Nat.le_of_ble_eq_true rfl) (fun r4142 w4143 dc4139 ds4140 hp4141 => ?_) (fun _ _ _ _ _ z => z.elim)
        obtain ⟨o4144, rfl, rfl, hdc, hds, bo4144, x4145, ht4146⟩ := hp4141
        change G _ _ _ _ _ _ _ (.int o4144 :: _) _ _ _
        refine G_widen (cs' := 0) (sl' := 0) (by omega) (by omega) ?_
        refine G_if_eq 79 dr_cX17_back_65 (by decide +kernel) (fun hc4147 => ?_) (fun hc4147 => ?_)
        · have r4148 : o4144.toInt = 0 := gj_eq hc4147 (show Int32.toInt 0 = 0 by decide)
          have bo4144' : gB o4144 0 0 := ⟨by omega, by omega⟩
          exact G_vretA dr_cX17_back_79 rfl (Nat.le_of_ble_eq_true rfl) (Nat.le_of_ble_eq_true rfl) ⟨F4128, rfl, rfl, hT4135, hs4136, (Nat.le_of_ble_eq_true rfl), (Nat.le_of_ble_eq_true rfl), (fun R c1 c2 c3 c4 c5 c6 c7 c8 c9 c10 c11 c12 => c3 p3949 p3950 p3953 o3969 p3954 o3981 p3951 f4119 f4125 F4128 p3955 o4144 fq3961 fq3962 fq3963 bo3969 ht3970 r3972 r3974 fq3975 bo3981 ht3983 r4067 fq4115 fq4116 he4118 ht4127 hfr4134 he4131 hT4135 fq4137 fq4138 bo4144 ht4146 r4148)⟩
        · have r4149 : o4144.toInt ≠ 0 := gj_neq hc4147 (show Int32.toInt 0 = 0 by decide)
          have bo4144' : gB o4144 1 1 := ⟨by omega, by omega⟩
          refine G_aload_n 1 dr_cX17_back_68 rfl ?_
          have fq4150 : fR (F4128 q3943) 2 = (γ 9 2) := by rw [he4133]; rfl
          refine Gp_get 2 hm4068 he4133 dr_cX17_back_69 (gk_X17 D I) (Nat.le_of_ble_eq_true rfl) wr_7_76 rfl ?_
          refine G_aload_n 2 dr_cX17_back_72 rfl ?_
          have fq4151 : fI (F4128 q3944) 3 = p3952 := by rw [he4132]; rfl
          refine Gp_get 3 hm3947 he4132 dr_cX17_back_73 (gk_X15 D I) (Nat.le_of_ble_eq_true rfl) wr_9_190 rfl ?_
          refine Gw_callS (As := [.ref (γ 9 2), .int p3952]) (gV_ok D I) (cp_1860_SpillForgeModel_set l hl0 D I P3941 F4128 (γ 9 2) p3952 f4125 hm4117 he4131 ⟨by omega, by omega⟩ x4126) dr_cX17_back_76 ⟨wr_10_189, wr_1_14, wr_10_191, by decide, rfl, (Nat.le_of_ble_eq_true rfl), (Nat.le_of_ble_eq_true rfl)⟩ wr_10_190 (show 0 + 0 ≤ 0 by first | omega | decide) (show 0 + 0 ≤ 0 by first | omega | decide) (Nat.le_of_ble_eq_true rfl) (fun r4155 w4156 dc4152 ds4153 hp4154 => ?_) (fun _ _ _ _ _ z => z.elim)
          obtain ⟨F4160, f4157, rfl, rfl, hfr4162, he4163, hdc, hds, x4158, ht4159⟩ := hp4154
          have he4164 : F4160 q3944 = .inr (20, [.int p3949, .int p3950, .int p3951, .int p3952, .int p3953, .int p3954, .int p3955]) := (hfr4162 q3944 hm3947 (nm_c (rn_oa he4132 he4131) nm_n)).trans he4132
          have he4165 : F4160 q3943 = .inr (22, [.ref (γ 9 0), .ref (γ 9 1), .ref (γ 9 2), .ref (γ 9 3), .ref (γ 9 4), .ref (γ 9 5), .ref (γ 9 6), .ref (γ 9 7), .ref (γ 9 8), .int p4072, .int p4073, .int p4074, .int p4075, .int p4076, .int p4077, .ref (γ 9 15), .ref (γ 9 16), .ref (γ 9 17), .ref (γ 9 18), .ref (γ 9 19), .ref (γ 9 20), .ref (γ 9 21), .ref (γ 9 22), .int p4078, .int p4079, .int p4080, .int p4081, .int p4082, .ref q4070, .ref (γ 9 29), .int p4083, .ref (γ 9 31), .int p4084, .int p4085, .int p4086, .ref q4071]) := (hfr4162 q3943 hm4068 (nm_c (rn_oa he4133 he4131) nm_n)).trans he4133
          have hfr4166 : rFr [(γ 9 2)] P3941 F4128 F4160 := rFr_call (rSub_rf (P := P3941)) (rFr_rf (W := []) (P := P3941) (F := F4128)) hfr4162 (fun b hb hn => ⟨nm_n, (nm_c (fun e => hn (e ▸ List.mem_cons_self)) nm_n)⟩)
          change G _ _ _ _ _ _ _ _ _ _ _
          refine G_widen (cs' := 0) (sl' := 0) (by omega) (by omega) ?_
          have hT4167 : RS D I P3941 F4160 γ el := RS_fr hT4135 hfr4166 ht4091 (by decide) ⟨f4157, he4163, x4158⟩
          have hs4168 : rStr γ [] F3942 F4160 := rStr_fr hT4135 hs4136 hfr4166 ht4091 (by decide)
          exact G_vretA dr_cX17_back_79 rfl (Nat.le_of_ble_eq_true rfl) (Nat.le_of_ble_eq_true rfl) ⟨F4160, rfl, rfl, hT4167, hs4168, (Nat.le_of_ble_eq_true rfl), (Nat.le_of_ble_eq_true rfl), (fun R c1 c2 c3 c4 c5 c6 c7 c8 c9 c10 c11 c12 => c4 p3949 p3950 p3953 o3969 p3954 o3981 p3951 f4119 f4125 F4128 p3955 o4144 p3952 f4157 F4160 fq3961 fq3962 fq3963 bo3969 ht3970 r3972 r3974 fq3975 bo3981 ht3983 r4067 fq4115 fq4116 he4118 ht4127 hfr4134 he4131 hT4135 fq4137 fq4138 bo4144 ht4146 r4149 fq4150 fq4151 he4131 ht4159 hfr4166 he4163 hT4167)⟩
    · have r4169 : p3945.toInt ≠ 0 := gj_neq hc3973 (show Int32.toInt 0 = 0 by decide)
      have bp3945' : gB p3945 1 1 := ⟨by omega, by omega⟩
      refine G_aload_n 2 dr_cX17_back_22 rfl ?_
      refine Gp_get 0 hm3947 he3948 dr_cX17_back_23 (gk_X15 D I) (Nat.le_of_ble_eq_true rfl) wr_9_177 rfl ?_
      refine G_bipush 21 dr_cX17_back_26 (by decide +kernel) ?_
      refine G_icmp_ne 42 dr_cX17_back_28 (by decide +kernel) (fun hc4170 => ?_) (fun hc4170 => ?_)
      · have r4171 : p3949.toInt ≠ 21 := gj_neq hc4170 (show Int32.toInt 21 = 21 by decide)
        exact G_vretA dr_cX17_back_42 rfl (Nat.le_of_ble_eq_true rfl) (Nat.le_of_ble_eq_true rfl) ⟨F3942, rfl, rfl, hT, (rStr_rf (γ := γ) (W := []) (F := F3942)), (Nat.le_of_ble_eq_true rfl), (Nat.le_of_ble_eq_true rfl), (fun R c1 c2 c3 c4 c5 c6 c7 c8 c9 c10 c11 c12 => c5 p3949 p3950 p3953 o3969 fq3961 fq3962 fq3963 bo3969 ht3970 r3972 r4169 r4171)⟩
      · have r4172 : p3949.toInt = 21 := gj_eq hc4170 (show Int32.toInt 21 = 21 by decide)
        have bp3949' : gB p3949 21 21 := ⟨by omega, by omega⟩
        refine G_aload_n 1 dr_cX17_back_31 rfl ?_
        have hm4173 : q3943 ∈ P3941 := RS_m hT htq3943 (by decide)
        obtain ⟨q4175, q4176, p4177, p4178, p4179, p4180, p4181, p4182, p4183, p4184, p4185, p4186, p4187, p4188, p4189, p4190, p4191, he4174, hB4218, ht4192, ht4193, ht4194, ht4195, ht4196, ht4197, ht4198, ht4199, ht4200, ht4201, ht4202, ht4203, ht4204, ht4205, ht4206, ht4207, ht4208, ht4209, ht4210, ht4211, ht4212, ht4213, ht4214, ht4215, hB4219⟩ := show rk_10 γ (F3942 q3943) from RS_o hT htq3943
        have fq4220 : fR (F3942 q3943) 2 = (γ 9 2) := by rw [he4174]; rfl
        refine Gp_get 2 hm4173 he4174 dr_cX17_back_32 (gk_X17 D I) (Nat.le_of_ble_eq_true rfl) wr_7_76 rfl ?_
        refine G_aload_n 2 dr_cX17_back_35 rfl ?_
        refine Gp_get 4 hm3947 he3948 dr_cX17_back_36 (gk_X15 D I) (Nat.le_of_ble_eq_true rfl) wr_9_193 rfl ?_
        have hm4221 : (γ 9 2) ∈ P3941 := RS_m hT ht4196 (by decide)
        obtain ⟨f4223, he4222, wf4223⟩ := show rk_35 I (F3942 (γ 9 2)) from RS_o hT ht4196
        refine Gw_callS (As := [.ref (γ 9 2), .int p3953]) (gV_ok D I) (cp_1860_SpillForgeModel_set l hl0 D I P3941 F3942 (γ 9 2) p3953 f4223 hm4221 he4222 bp3953 wf4223) dr_cX17_back_39 ⟨wr_10_189, wr_1_14, wr_10_191, by decide, rfl, (Nat.le_of_ble_eq_true rfl), (Nat.le_of_ble_eq_true rfl)⟩ wr_10_190 (show 0 + 0 ≤ 0 by first | omega | decide) (show 0 + 0 ≤ 0 by first | omega | decide) (Nat.le_of_ble_eq_true rfl) (fun r4227 w4228 dc4224 ds4225 hp4226 => ?_) (fun _ _ _ _ _ z => z.elim)
        obtain ⟨F4232, f4229, rfl, rfl, hfr4234, he4235, hdc, hds, x4230, ht4231⟩ := hp4226
        have he4236 : F4232 q3944 = .inr (20, [.int p3949, .int p3950, .int p3951, .int p3952, .int p3953, .int p3954, .int p3955]) := (hfr4234 q3944 hm3947 (nm_c (rn_oa he3948 he4222) nm_n)).trans he3948
        have he4237 : F4232 q3943 = .inr (22, [.ref (γ 9 0), .ref (γ 9 1), .ref (γ 9 2), .ref (γ 9 3), .ref (γ 9 4), .ref (γ 9 5), .ref (γ 9 6), .ref (γ 9 7), .ref (γ 9 8), .int p4177, .int p4178, .int p4179, .int p4180, .int p4181, .int p4182, .ref (γ 9 15), .ref (γ 9 16), .ref (γ 9 17), .ref (γ 9 18), .ref (γ 9 19), .ref (γ 9 20), .ref (γ 9 21), .ref (γ 9 22), .int p4183, .int p4184, .int p4185, .int p4186, .int p4187, .ref q4175, .ref (γ 9 29), .int p4188, .ref (γ 9 31), .int p4189, .int p4190, .int p4191, .ref q4176]) := (hfr4234 q3943 hm4173 (nm_c (rn_oa he4174 he4222) nm_n)).trans he4174
        have hfr4238 : rFr [(γ 9 2)] P3941 F3942 F4232 := rFr_call (rSub_rf (P := P3941)) (rFr_rf (W := []) (P := P3941) (F := F3942)) hfr4234 (fun b hb hn => ⟨nm_n, (nm_c (fun e => hn (e ▸ List.mem_cons_self)) nm_n)⟩)
        change G _ _ _ _ _ _ _ _ _ _ _
        refine G_widen (cs' := 0) (sl' := 0) (by omega) (by omega) ?_
        have hT4239 : RS D I P3941 F4232 γ el := RS_fr hT hfr4238 ht4196 (by decide) ⟨f4229, he4235, x4230⟩
        have hs4240 : rStr γ [] F3942 F4232 := rStr_fr hT (rStr_rf (γ := γ) (W := []) (F := F3942)) hfr4238 ht4196 (by decide)
        exact G_vretA dr_cX17_back_42 rfl (Nat.le_of_ble_eq_true rfl) (Nat.le_of_ble_eq_true rfl) ⟨F4232, rfl, rfl, hT4239, hs4240, (Nat.le_of_ble_eq_true rfl), (Nat.le_of_ble_eq_true rfl), (fun R c1 c2 c3 c4 c5 c6 c7 c8 c9 c10 c11 c12 => c6 p3949 p3950 p3953 o3969 f4223 f4229 F4232 fq3961 fq3962 fq3963 bo3969 ht3970 r3972 r4169 r4172 fq4220 he4222 ht4231 hfr4238 he4235 hT4239)⟩
  · have r4241 : 0 ≤ o3969.toInt := gj_nlt hc3971 (show Int32.toInt 0 = 0 by decide)
    have bo3969' : gB o3969 0 1999 := ⟨by omega, by omega⟩
    refine G_aload_n 1 dr_cX17_back_10 rfl ?_
    have hm4242 : q3943 ∈ P3941 := RS_m hT htq3943 (by decide)
    obtain ⟨q4244, q4245, p4246, p4247, p4248, p4249, p4250, p4251, p4252, p4253, p4254, p4255, p4256, p4257, p4258, p4259, p4260, he4243, hB4287, ht4261, ht4262, ht4263, ht4264, ht4265, ht4266, ht4267, ht4268, ht4269, ht4270, ht4271, ht4272, ht4273, ht4274, ht4275, ht4276, ht4277, ht4278, ht4279, ht4280, ht4281, ht4282, ht4283, ht4284, hB4288⟩ := show rk_10 γ (F3942 q3943) from RS_o hT htq3943
    have fq4289 : fR (F3942 q3943) 2 = (γ 9 2) := by rw [he4243]; rfl
    refine Gp_get 2 hm4242 he4243 dr_cX17_back_11 (gk_X17 D I) (Nat.le_of_ble_eq_true rfl) wr_7_76 rfl ?_
    refine G_iload_n 0 dr_cX17_back_14 rfl ?_
    have hm4290 : (γ 9 2) ∈ P3941 := RS_m hT ht4265 (by decide)
    obtain ⟨f4292, he4291, wf4292⟩ := show rk_35 I (F3942 (γ 9 2)) from RS_o hT ht4265
    refine Gw_callS (As := [.ref (γ 9 2), .int o3969]) (gV_ok D I) (cp_1880_SpillForgeModel_clear l hl0 D I P3941 F3942 (γ 9 2) o3969 f4292 hm4290 he4291 bo3969' wf4292) dr_cX17_back_15 ⟨wr_10_185, wr_1_14, wr_10_187, by decide, rfl, (Nat.le_of_ble_eq_true rfl), (Nat.le_of_ble_eq_true rfl)⟩ wr_10_186 (show 0 + 0 ≤ 0 by first | omega | decide) (show 0 + 0 ≤ 0 by first | omega | decide) (Nat.le_of_ble_eq_true rfl) (fun r4296 w4297 dc4293 ds4294 hp4295 => ?_) (fun _ _ _ _ _ z => z.elim)
    obtain ⟨F4301, f4298, rfl, rfl, hfr4303, he4304, hdc, hds, x4299, ht4300⟩ := hp4295
    have he4305 : F4301 q3944 = .inr (20, [.int p3949, .int p3950, .int p3951, .int p3952, .int p3953, .int p3954, .int p3955]) := (hfr4303 q3944 hm3947 (nm_c (rn_oa he3948 he4291) nm_n)).trans he3948
    have he4306 : F4301 q3943 = .inr (22, [.ref (γ 9 0), .ref (γ 9 1), .ref (γ 9 2), .ref (γ 9 3), .ref (γ 9 4), .ref (γ 9 5), .ref (γ 9 6), .ref (γ 9 7), .ref (γ 9 8), .int p4246, .int p4247, .int p4248, .int p4249, .int p4250, .int p4251, .ref (γ 9 15), .ref (γ 9 16), .ref (γ 9 17), .ref (γ 9 18), .ref (γ 9 19), .ref (γ 9 20), .ref (γ 9 21), .ref (γ 9 22), .int p4252, .int p4253, .int p4254, .int p4255, .int p4256, .ref q4244, .ref (γ 9 29), .int p4257, .ref (γ 9 31), .int p4258, .int p4259, .int p4260, .ref q4245]) := (hfr4303 q3943 hm4242 (nm_c (rn_oa he4243 he4291) nm_n)).trans he4243
    have hfr4307 : rFr [(γ 9 2)] P3941 F3942 F4301 := rFr_call (rSub_rf (P := P3941)) (rFr_rf (W := []) (P := P3941) (F := F3942)) hfr4303 (fun b hb hn => ⟨nm_n, (nm_c (fun e => hn (e ▸ List.mem_cons_self)) nm_n)⟩)
    change G _ _ _ _ _ _ _ _ _ _ _
    refine G_widen (cs' := 0) (sl' := 0) (by omega) (by omega) ?_
    have hT4308 : RS D I P3941 F4301 γ el := RS_fr hT hfr4307 ht4265 (by decide) ⟨f4298, he4304, x4299⟩
    have hs4309 : rStr γ [] F3942 F4301 := rStr_fr hT (rStr_rf (γ := γ) (W := []) (F := F3942)) hfr4307 ht4265 (by decide)
    refine G_iload_n 3 dr_cX17_back_18 rfl ?_
    refine G_if_eq 43 dr_cX17_back_19 (by decide +kernel) (fun hc4310 => ?_) (fun hc4310 => ?_)
    · have r4311 : p3945.toInt = 0 := gj_eq hc4310 (show Int32.toInt 0 = 0 by decide)
      have bp3945' : gB p3945 0 0 := ⟨by omega, by omega⟩
      refine G_aload_n 2 dr_cX17_back_43 rfl ?_
      have fq4312 : fI (F4301 q3944) 0 = p3949 := by rw [he4305]; rfl
      have fq4313 : fI (F4301 q3944) 5 = p3954 := by rw [he4305]; rfl
      refine Gw_callV (As := []) (gV_ok D I) (cp_1675_Row_usesA l hl0 D I P3941 F4301 q3944 p3949 p3950 p3951 p3952 p3953 p3954 p3955 hm3947 he4305 bp3949 bp3950 bp3953 bp3954 bp3955) dr_cX17_back_44 ⟨wr_10_192, wr_1_39, wr_10_195, by decide, rfl, (Nat.le_of_ble_eq_true rfl), (Nat.le_of_ble_eq_true rfl)⟩ wr_10_193 wr_10_194 hm3947 he4305 rfl (show 0 + 0 ≤ 0 by first | omega | decide) (show 0 + 0 ≤ 0 by first | omega | decide) (Nat.le_of_ble_eq_true rfl) (fun r4317 w4318 dc4314 ds4315 hp4316 => ?_) (fun _ _ _ _ _ z => z.elim)
      obtain ⟨o4319, rfl, rfl, hdc, hds, bo4319, x4320, ht4321⟩ := hp4316
      change G _ _ _ _ _ _ _ (.int o4319 :: _) _ _ _
      refine G_widen (cs' := 0) (sl' := 0) (by omega) (by omega) ?_
      refine G_if_eq 61 dr_cX17_back_47 (by decide +kernel) (fun hc4322 => ?_) (fun hc4322 => ?_)
      · have r4323 : o4319.toInt = 0 := gj_eq hc4322 (show Int32.toInt 0 = 0 by decide)
        have bo4319' : gB o4319 0 0 := ⟨by omega, by omega⟩
        refine G_aload_n 2 dr_cX17_back_61 rfl ?_
        have fq4324 : fI (F4301 q3944) 6 = p3955 := by rw [he4305]; rfl
        refine Gw_callV (As := []) (gV_ok D I) (cp_1699_Row_usesB l hl0 D I P3941 F4301 q3944 p3949 p3950 p3951 p3952 p3953 p3954 p3955 hm3947 he4305 bp3949 bp3950 bp3953 bp3954 bp3955) dr_cX17_back_62 ⟨wr_10_196, wr_1_39, wr_10_199, by decide, rfl, (Nat.le_of_ble_eq_true rfl), (Nat.le_of_ble_eq_true rfl)⟩ wr_10_197 wr_10_198 hm3947 he4305 rfl (show 0 + 0 ≤ 0 by first | omega | decide) (show 0 + 0 ≤ 0 by first | omega | decide) (Nat.le_of_ble_eq_true rfl) (fun r4328 w4329 dc4325 ds4326 hp4327 => ?_) (fun _ _ _ _ _ z => z.elim)
        obtain ⟨o4330, rfl, rfl, hdc, hds, bo4330, x4331, ht4332⟩ := hp4327
        change G _ _ _ _ _ _ _ (.int o4330 :: _) _ _ _
        refine G_widen (cs' := 0) (sl' := 0) (by omega) (by omega) ?_
        refine G_if_eq 79 dr_cX17_back_65 (by decide +kernel) (fun hc4333 => ?_) (fun hc4333 => ?_)
        · have r4334 : o4330.toInt = 0 := gj_eq hc4333 (show Int32.toInt 0 = 0 by decide)
          have bo4330' : gB o4330 0 0 := ⟨by omega, by omega⟩
          exact G_vretA dr_cX17_back_79 rfl (Nat.le_of_ble_eq_true rfl) (Nat.le_of_ble_eq_true rfl) ⟨F4301, rfl, rfl, hT4308, hs4309, (Nat.le_of_ble_eq_true rfl), (Nat.le_of_ble_eq_true rfl), (fun R c1 c2 c3 c4 c5 c6 c7 c8 c9 c10 c11 c12 => c7 p3949 p3950 p3953 o3969 f4292 f4298 F4301 p3954 o4319 p3955 o4330 fq3961 fq3962 fq3963 bo3969 ht3970 r4241 fq4289 he4291 ht4300 hfr4307 he4304 hT4308 r4311 fq4312 fq4313 bo4319 ht4321 r4323 fq4324 bo4330 ht4332 r4334)⟩
        · have r4335 : o4330.toInt ≠ 0 := gj_neq hc4333 (show Int32.toInt 0 = 0 by decide)
          have bo4330' : gB o4330 1 1 := ⟨by omega, by omega⟩
          refine G_aload_n 1 dr_cX17_back_68 rfl ?_
          have fq4336 : fR (F4301 q3943) 2 = (γ 9 2) := by rw [he4306]; rfl
          refine Gp_get 2 hm4242 he4306 dr_cX17_back_69 (gk_X17 D I) (Nat.le_of_ble_eq_true rfl) wr_7_76 rfl ?_
          refine G_aload_n 2 dr_cX17_back_72 rfl ?_
          have fq4337 : fI (F4301 q3944) 3 = p3952 := by rw [he4305]; rfl
          refine Gp_get 3 hm3947 he4305 dr_cX17_back_73 (gk_X15 D I) (Nat.le_of_ble_eq_true rfl) wr_9_190 rfl ?_
          refine Gw_callS (As := [.ref (γ 9 2), .int p3952]) (gV_ok D I) (cp_1860_SpillForgeModel_set l hl0 D I P3941 F4301 (γ 9 2) p3952 f4298 hm4290 he4304 ⟨by omega, by omega⟩ x4299) dr_cX17_back_76 ⟨wr_10_189, wr_1_14, wr_10_191, by decide, rfl, (Nat.le_of_ble_eq_true rfl), (Nat.le_of_ble_eq_true rfl)⟩ wr_10_190 (show 0 + 0 ≤ 0 by first | omega | decide) (show 0 + 0 ≤ 0 by first | omega | decide) (Nat.le_of_ble_eq_true rfl) (fun r4341 w4342 dc4338 ds4339 hp4340 => ?_) (fun _ _ _ _ _ z => z.elim)
          obtain ⟨F4346, f4343, rfl, rfl, hfr4348, he4349, hdc, hds, x4344, ht4345⟩ := hp4340
          have he4350 : F4346 q3944 = .inr (20, [.int p3949, .int p3950, .int p3951, .int p3952, .int p3953, .int p3954, .int p3955]) := (hfr4348 q3944 hm3947 (nm_c (rn_oa he4305 he4304) nm_n)).trans he4305
          have he4351 : F4346 q3943 = .inr (22, [.ref (γ 9 0), .ref (γ 9 1), .ref (γ 9 2), .ref (γ 9 3), .ref (γ 9 4), .ref (γ 9 5), .ref (γ 9 6), .ref (γ 9 7), .ref (γ 9 8), .int p4246, .int p4247, .int p4248, .int p4249, .int p4250, .int p4251, .ref (γ 9 15), .ref (γ 9 16), .ref (γ 9 17), .ref (γ 9 18), .ref (γ 9 19), .ref (γ 9 20), .ref (γ 9 21), .ref (γ 9 22), .int p4252, .int p4253, .int p4254, .int p4255, .int p4256, .ref q4244, .ref (γ 9 29), .int p4257, .ref (γ 9 31), .int p4258, .int p4259, .int p4260, .ref q4245]) := (hfr4348 q3943 hm4242 (nm_c (rn_oa he4306 he4304) nm_n)).trans he4306
          have hfr4352 : rFr [(γ 9 2)] P3941 F4301 F4346 := rFr_call (rSub_rf (P := P3941)) (rFr_rf (W := []) (P := P3941) (F := F4301)) hfr4348 (fun b hb hn => ⟨nm_n, (nm_c (fun e => hn (e ▸ List.mem_cons_self)) nm_n)⟩)
          change G _ _ _ _ _ _ _ _ _ _ _
          refine G_widen (cs' := 0) (sl' := 0) (by omega) (by omega) ?_
          have hT4353 : RS D I P3941 F4346 γ el := RS_fr hT4308 hfr4352 ht4265 (by decide) ⟨f4343, he4349, x4344⟩
          have hs4354 : rStr γ [] F3942 F4346 := rStr_fr hT4308 hs4309 hfr4352 ht4265 (by decide)
          exact G_vretA dr_cX17_back_79 rfl (Nat.le_of_ble_eq_true rfl) (Nat.le_of_ble_eq_true rfl) ⟨F4346, rfl, rfl, hT4353, hs4354, (Nat.le_of_ble_eq_true rfl), (Nat.le_of_ble_eq_true rfl), (fun R c1 c2 c3 c4 c5 c6 c7 c8 c9 c10 c11 c12 => c8 p3949 p3950 p3953 o3969 f4292 f4298 F4301 p3954 o4319 p3955 o4330 p3952 f4343 F4346 fq3961 fq3962 fq3963 bo3969 ht3970 r4241 fq4289 he4291 ht4300 hfr4307 he4304 hT4308 r4311 fq4312 fq4313 bo4319 ht4321 r4323 fq4324 bo4330 ht4332 r4335 fq4336 fq4337 he4304 ht4345 hfr4352 he4349 hT4353)⟩
      · have r4355 : o4319.toInt ≠ 0 := gj_neq hc4322 (show Int32.toInt 0 = 0 by decide)
        have bo4319' : gB o4319 1 1 := ⟨by omega, by omega⟩
        refine G_aload_n 1 dr_cX17_back_50 rfl ?_
        have fq4356 : fR (F4301 q3943) 2 = (γ 9 2) := by rw [he4306]; rfl
        refine Gp_get 2 hm4242 he4306 dr_cX17_back_51 (gk_X17 D I) (Nat.le_of_ble_eq_true rfl) wr_7_76 rfl ?_
        refine G_aload_n 2 dr_cX17_back_54 rfl ?_
        have fq4357 : fI (F4301 q3944) 2 = p3951 := by rw [he4305]; rfl
        refine Gp_get 2 hm3947 he4305 dr_cX17_back_55 (gk_X15 D I) (Nat.le_of_ble_eq_true rfl) wr_9_186 rfl ?_
        refine Gw_callS (As := [.ref (γ 9 2), .int p3951]) (gV_ok D I) (cp_1860_SpillForgeModel_set l hl0 D I P3941 F4301 (γ 9 2) p3951 f4298 hm4290 he4304 ⟨by omega, by omega⟩ x4299) dr_cX17_back_58 ⟨wr_10_189, wr_1_14, wr_10_191, by decide, rfl, (Nat.le_of_ble_eq_true rfl), (Nat.le_of_ble_eq_true rfl)⟩ wr_10_190 (show 0 + 0 ≤ 0 by first | omega | decide) (show 0 + 0 ≤ 0 by first | omega | decide) (Nat.le_of_ble_eq_true rfl) (fun r4361 w4362 dc4358 ds4359 hp4360 => ?_) (fun _ _ _ _ _ z => z.elim)
        obtain ⟨F4366, f4363, rfl, rfl, hfr4368, he4369, hdc, hds, x4364, ht4365⟩ := hp4360
        have he4370 : F4366 q3944 = .inr (20, [.int p3949, .int p3950, .int p3951, .int p3952, .int p3953, .int p3954, .int p3955]) := (hfr4368 q3944 hm3947 (nm_c (rn_oa he4305 he4304) nm_n)).trans he4305
        have he4371 : F4366 q3943 = .inr (22, [.ref (γ 9 0), .ref (γ 9 1), .ref (γ 9 2), .ref (γ 9 3), .ref (γ 9 4), .ref (γ 9 5), .ref (γ 9 6), .ref (γ 9 7), .ref (γ 9 8), .int p4246, .int p4247, .int p4248, .int p4249, .int p4250, .int p4251, .ref (γ 9 15), .ref (γ 9 16), .ref (γ 9 17), .ref (γ 9 18), .ref (γ 9 19), .ref (γ 9 20), .ref (γ 9 21), .ref (γ 9 22), .int p4252, .int p4253, .int p4254, .int p4255, .int p4256, .ref q4244, .ref (γ 9 29), .int p4257, .ref (γ 9 31), .int p4258, .int p4259, .int p4260, .ref q4245]) := (hfr4368 q3943 hm4242 (nm_c (rn_oa he4306 he4304) nm_n)).trans he4306
        have hfr4372 : rFr [(γ 9 2)] P3941 F4301 F4366 := rFr_call (rSub_rf (P := P3941)) (rFr_rf (W := []) (P := P3941) (F := F4301)) hfr4368 (fun b hb hn => ⟨nm_n, (nm_c (fun e => hn (e ▸ List.mem_cons_self)) nm_n)⟩)
        change G _ _ _ _ _ _ _ _ _ _ _
        refine G_widen (cs' := 0) (sl' := 0) (by omega) (by omega) ?_
        have hT4373 : RS D I P3941 F4366 γ el := RS_fr hT4308 hfr4372 ht4265 (by decide) ⟨f4363, he4369, x4364⟩
        have hs4374 : rStr γ [] F3942 F4366 := rStr_fr hT4308 hs4309 hfr4372 ht4265 (by decide)
        refine G_aload_n 2 dr_cX17_back_61 rfl ?_
        have fq4375 : fI (F4366 q3944) 0 = p3949 := by rw [he4370]; rfl
        have fq4376 : fI (F4366 q3944) 6 = p3955 := by rw [he4370]; rfl
        refine Gw_callV (As := []) (gV_ok D I) (cp_1699_Row_usesB l hl0 D I P3941 F4366 q3944 p3949 p3950 p3951 p3952 p3953 p3954 p3955 hm3947 he4370 bp3949 bp3950 bp3953 bp3954 bp3955) dr_cX17_back_62 ⟨wr_10_196, wr_1_39, wr_10_199, by decide, rfl, (Nat.le_of_ble_eq_true rfl), (Nat.le_of_ble_eq_true rfl)⟩ wr_10_197 wr_10_198 hm3947 he4370 rfl (show 0 + 0 ≤ 0 by first | omega | decide) (show 0 + 0 ≤ 0 by first | omega | decide) (Nat.le_of_ble_eq_true rfl) (fun r4380 w4381 dc4377 ds4378 hp4379 => ?_) (fun _ _ _ _ _ z => z.elim)
        obtain ⟨o4382, rfl, rfl, hdc, hds, bo4382, x4383, ht4384⟩ := hp4379
        change G _ _ _ _ _ _ _ (.int o4382 :: _) _ _ _
        refine G_widen (cs' := 0) (sl' := 0) (by omega) (by omega) ?_
        refine G_if_eq 79 dr_cX17_back_65 (by decide +kernel) (fun hc4385 => ?_) (fun hc4385 => ?_)
        · have r4386 : o4382.toInt = 0 := gj_eq hc4385 (show Int32.toInt 0 = 0 by decide)
          have bo4382' : gB o4382 0 0 := ⟨by omega, by omega⟩
          exact G_vretA dr_cX17_back_79 rfl (Nat.le_of_ble_eq_true rfl) (Nat.le_of_ble_eq_true rfl) ⟨F4366, rfl, rfl, hT4373, hs4374, (Nat.le_of_ble_eq_true rfl), (Nat.le_of_ble_eq_true rfl), (fun R c1 c2 c3 c4 c5 c6 c7 c8 c9 c10 c11 c12 => c9 p3949 p3950 p3953 o3969 f4292 f4298 F4301 p3954 o4319 p3951 f4363 F4366 p3955 o4382 fq3961 fq3962 fq3963 bo3969 ht3970 r4241 fq4289 he4291 ht4300 hfr4307 he4304 hT4308 r4311 fq4312 fq4313 bo4319 ht4321 r4355 fq4356 fq4357 he4304 ht4365 hfr4372 he4369 hT4373 fq4375 fq4376 bo4382 ht4384 r4386)⟩
        · have r4387 : o4382.toInt ≠ 0 := gj_neq hc4385 (show Int32.toInt 0 = 0 by decide)
          have bo4382' : gB o4382 1 1 := ⟨by omega, by omega⟩
          refine G_aload_n 1 dr_cX17_back_68 rfl ?_
          have fq4388 : fR (F4366 q3943) 2 = (γ 9 2) := by rw [he4371]; rfl
          refine Gp_get 2 hm4242 he4371 dr_cX17_back_69 (gk_X17 D I) (Nat.le_of_ble_eq_true rfl) wr_7_76 rfl ?_
          refine G_aload_n 2 dr_cX17_back_72 rfl ?_
          have fq4389 : fI (F4366 q3944) 3 = p3952 := by rw [he4370]; rfl
          refine Gp_get 3 hm3947 he4370 dr_cX17_back_73 (gk_X15 D I) (Nat.le_of_ble_eq_true rfl) wr_9_190 rfl ?_
          refine Gw_callS (As := [.ref (γ 9 2), .int p3952]) (gV_ok D I) (cp_1860_SpillForgeModel_set l hl0 D I P3941 F4366 (γ 9 2) p3952 f4363 hm4290 he4369 ⟨by omega, by omega⟩ x4364) dr_cX17_back_76 ⟨wr_10_189, wr_1_14, wr_10_191, by decide, rfl, (Nat.le_of_ble_eq_true rfl), (Nat.le_of_ble_eq_true rfl)⟩ wr_10_190 (show 0 + 0 ≤ 0 by first | omega | decide) (show 0 + 0 ≤ 0 by first | omega | decide) (Nat.le_of_ble_eq_true rfl) (fun r4393 w4394 dc4390 ds4391 hp4392 => ?_) (fun _ _ _ _ _ z => z.elim)
          obtain ⟨F4398, f4395, rfl, rfl, hfr4400, he4401, hdc, hds, x4396, ht4397⟩ := hp4392
          have he4402 : F4398 q3944 = .inr (20, [.int p3949, .int p3950, .int p3951, .int p3952, .int p3953, .int p3954, .int p3955]) := (hfr4400 q3944 hm3947 (nm_c (rn_oa he4370 he4369) nm_n)).trans he4370
          have he4403 : F4398 q3943 = .inr (22, [.ref (γ 9 0), .ref (γ 9 1), .ref (γ 9 2), .ref (γ 9 3), .ref (γ 9 4), .ref (γ 9 5), .ref (γ 9 6), .ref (γ 9 7), .ref (γ 9 8), .int p4246, .int p4247, .int p4248, .int p4249, .int p4250, .int p4251, .ref (γ 9 15), .ref (γ 9 16), .ref (γ 9 17), .ref (γ 9 18), .ref (γ 9 19), .ref (γ 9 20), .ref (γ 9 21), .ref (γ 9 22), .int p4252, .int p4253, .int p4254, .int p4255, .int p4256, .ref q4244, .ref (γ 9 29), .int p4257, .ref (γ 9 31), .int p4258, .int p4259, .int p4260, .ref q4245]) := (hfr4400 q3943 hm4242 (nm_c (rn_oa he4371 he4369) nm_n)).trans he4371
          have hfr4404 : rFr [(γ 9 2)] P3941 F4366 F4398 := rFr_call (rSub_rf (P := P3941)) (rFr_rf (W := []) (P := P3941) (F := F4366)) hfr4400 (fun b hb hn => ⟨nm_n, (nm_c (fun e => hn (e ▸ List.mem_cons_self)) nm_n)⟩)
          change G _ _ _ _ _ _ _ _ _ _ _
          refine G_widen (cs' := 0) (sl' := 0) (by omega) (by omega) ?_
          have hT4405 : RS D I P3941 F4398 γ el := RS_fr hT4373 hfr4404 ht4265 (by decide) ⟨f4395, he4401, x4396⟩
          have hs4406 : rStr γ [] F3942 F4398 := rStr_fr hT4373 hs4374 hfr4404 ht4265 (by decide)
          exact G_vretA dr_cX17_back_79 rfl (Nat.le_of_ble_eq_true rfl) (Nat.le_of_ble_eq_true rfl) ⟨F4398, rfl, rfl, hT4405, hs4406, (Nat.le_of_ble_eq_true rfl), (Nat.le_of_ble_eq_true rfl), (fun R c1 c2 c3 c4 c5 c6 c7 c8 c9 c10 c11 c12 => c10 p3949 p3950 p3953 o3969 f4292 f4298 F4301 p3954 o4319 p3951 f4363 F4366 p3955 o4382 p3952 f4395 F4398 fq3961 fq3962 fq3963 bo3969 ht3970 r4241 fq4289 he4291 ht4300 hfr4307 he4304 hT4308 r4311 fq4312 fq4313 bo4319 ht4321 r4355 fq4356 fq4357 he4304 ht4365 hfr4372 he4369 hT4373 fq4375 fq4376 bo4382 ht4384 r4387 fq4388 fq4389 he4369 ht4397 hfr4404 he4401 hT4405)⟩
    · have r4407 : p3945.toInt ≠ 0 := gj_neq hc4310 (show Int32.toInt 0 = 0 by decide)
      have bp3945' : gB p3945 1 1 := ⟨by omega, by omega⟩
      refine G_aload_n 2 dr_cX17_back_22 rfl ?_
      have fq4408 : fI (F4301 q3944) 0 = p3949 := by rw [he4305]; rfl
      refine Gp_get 0 hm3947 he4305 dr_cX17_back_23 (gk_X15 D I) (Nat.le_of_ble_eq_true rfl) wr_9_177 rfl ?_
      refine G_bipush 21 dr_cX17_back_26 (by decide +kernel) ?_
      refine G_icmp_ne 42 dr_cX17_back_28 (by decide +kernel) (fun hc4409 => ?_) (fun hc4409 => ?_)
      · have r4410 : p3949.toInt ≠ 21 := gj_neq hc4409 (show Int32.toInt 21 = 21 by decide)
        exact G_vretA dr_cX17_back_42 rfl (Nat.le_of_ble_eq_true rfl) (Nat.le_of_ble_eq_true rfl) ⟨F4301, rfl, rfl, hT4308, hs4309, (Nat.le_of_ble_eq_true rfl), (Nat.le_of_ble_eq_true rfl), (fun R c1 c2 c3 c4 c5 c6 c7 c8 c9 c10 c11 c12 => c11 p3949 p3950 p3953 o3969 f4292 f4298 F4301 fq3961 fq3962 fq3963 bo3969 ht3970 r4241 fq4289 he4291 ht4300 hfr4307 he4304 hT4308 r4407 fq4408 r4410)⟩
      · have r4411 : p3949.toInt = 21 := gj_eq hc4409 (show Int32.toInt 21 = 21 by decide)
        have bp3949' : gB p3949 21 21 := ⟨by omega, by omega⟩
        refine G_aload_n 1 dr_cX17_back_31 rfl ?_
        have fq4412 : fR (F4301 q3943) 2 = (γ 9 2) := by rw [he4306]; rfl
        refine Gp_get 2 hm4242 he4306 dr_cX17_back_32 (gk_X17 D I) (Nat.le_of_ble_eq_true rfl) wr_7_76 rfl ?_
        refine G_aload_n 2 dr_cX17_back_35 rfl ?_
        have fq4413 : fI (F4301 q3944) 4 = p3953 := by rw [he4305]; rfl
        refine Gp_get 4 hm3947 he4305 dr_cX17_back_36 (gk_X15 D I) (Nat.le_of_ble_eq_true rfl) wr_9_193 rfl ?_
        refine Gw_callS (As := [.ref (γ 9 2), .int p3953]) (gV_ok D I) (cp_1860_SpillForgeModel_set l hl0 D I P3941 F4301 (γ 9 2) p3953 f4298 hm4290 he4304 bp3953 x4299) dr_cX17_back_39 ⟨wr_10_189, wr_1_14, wr_10_191, by decide, rfl, (Nat.le_of_ble_eq_true rfl), (Nat.le_of_ble_eq_true rfl)⟩ wr_10_190 (show 0 + 0 ≤ 0 by first | omega | decide) (show 0 + 0 ≤ 0 by first | omega | decide) (Nat.le_of_ble_eq_true rfl) (fun r4417 w4418 dc4414 ds4415 hp4416 => ?_) (fun _ _ _ _ _ z => z.elim)
        obtain ⟨F4422, f4419, rfl, rfl, hfr4424, he4425, hdc, hds, x4420, ht4421⟩ := hp4416
        have he4426 : F4422 q3944 = .inr (20, [.int p3949, .int p3950, .int p3951, .int p3952, .int p3953, .int p3954, .int p3955]) := (hfr4424 q3944 hm3947 (nm_c (rn_oa he4305 he4304) nm_n)).trans he4305
        have he4427 : F4422 q3943 = .inr (22, [.ref (γ 9 0), .ref (γ 9 1), .ref (γ 9 2), .ref (γ 9 3), .ref (γ 9 4), .ref (γ 9 5), .ref (γ 9 6), .ref (γ 9 7), .ref (γ 9 8), .int p4246, .int p4247, .int p4248, .int p4249, .int p4250, .int p4251, .ref (γ 9 15), .ref (γ 9 16), .ref (γ 9 17), .ref (γ 9 18), .ref (γ 9 19), .ref (γ 9 20), .ref (γ 9 21), .ref (γ 9 22), .int p4252, .int p4253, .int p4254, .int p4255, .int p4256, .ref q4244, .ref (γ 9 29), .int p4257, .ref (γ 9 31), .int p4258, .int p4259, .int p4260, .ref q4245]) := (hfr4424 q3943 hm4242 (nm_c (rn_oa he4306 he4304) nm_n)).trans he4306
        have hfr4428 : rFr [(γ 9 2)] P3941 F4301 F4422 := rFr_call (rSub_rf (P := P3941)) (rFr_rf (W := []) (P := P3941) (F := F4301)) hfr4424 (fun b hb hn => ⟨nm_n, (nm_c (fun e => hn (e ▸ List.mem_cons_self)) nm_n)⟩)
        change G _ _ _ _ _ _ _ _ _ _ _
        refine G_widen (cs' := 0) (sl' := 0) (by omega) (by omega) ?_
        have hT4429 : RS D I P3941 F4422 γ el := RS_fr hT4308 hfr4428 ht4265 (by decide) ⟨f4419, he4425, x4420⟩
        have hs4430 : rStr γ [] F3942 F4422 := rStr_fr hT4308 hs4309 hfr4428 ht4265 (by decide)
        exact G_vretA dr_cX17_back_42 rfl (Nat.le_of_ble_eq_true rfl) (Nat.le_of_ble_eq_true rfl) ⟨F4422, rfl, rfl, hT4429, hs4430, (Nat.le_of_ble_eq_true rfl), (Nat.le_of_ble_eq_true rfl), (fun R c1 c2 c3 c4 c5 c6 c7 c8 c9 c10 c11 c12 => c12 p3949 p3950 p3953 o3969 f4292 f4298 F4301 f4419 F4422 fq3961 fq3962 fq3963 bo3969 ht3970 r4241 fq4289 he4291 ht4300 hfr4307 he4304 hT4308 r4407 fq4408 r4411 fq4412 fq4413 he4304 ht4421 hfr4428 he4425 hT4429)⟩
/- tr_RModel_stand: F -/
def tr_RModel_stand (D : va_G) (I : FieldType → ClassId) (γ el : Nat → Nat → Nat) (F : Nat → va_E) (q0 : Nat) (q1 : Nat) (a2 : Int32) (o1 : Nat → va_E) : Prop := ∀ R : (Nat → va_E) → Prop,
  (∀ (x1 : Int32) (x2 : Int32) (x3 : Int32) (x4 : Int32) (x5 : Int32) (x6 : Int32) (x7 : Int32) (x8 : Int32), fI (F q1) 0 = x1 → fI (F q1) 1 = x2 → fI (F q1) 4 = x3 → gB x4 (-1) 1999 → tr_RModel_setOf a2 x1 x2 x3 x4 → x4.toInt < 0 → a2.toInt = 0 → fI (F q1) 5 = x5 → gB x6 0 1 → tr_RRow_usesA x1 x5 x6 → x6.toInt = 0 → fI (F q1) 6 = x7 → gB x8 0 1 → tr_RRow_usesB x1 x7 x8 → x8.toInt = 0 → R F) →
  (∀ (x1 : Int32) (x2 : Int32) (x3 : Int32) (x4 : Int32) (x5 : Int32) (x6 : Int32) (x7 : Int32) (x8 : Int32) (x9 : Int32) (x10 : Nat → Int32) (x11 : Nat → Int32) (x12 : Nat → va_E), fI (F q1) 0 = x1 → fI (F q1) 1 = x2 → fI (F q1) 4 = x3 → gB x4 (-1) 1999 → tr_RModel_setOf a2 x1 x2 x3 x4 → x4.toInt < 0 → a2.toInt = 0 → fI (F q1) 5 = x5 → gB x6 0 1 → tr_RRow_usesA x1 x5 x6 → x6.toInt = 0 → fI (F q1) 6 = x7 → gB x8 0 1 → tr_RRow_usesB x1 x7 x8 → x8.toInt ≠ 0 → fR (F q0) 3 = (γ 9 3) → fI (F q1) 3 = x9 → F (γ 9 3) = .inl (I .boolean, 2000, .inl x10) → x11 = upd x10 x9.toNatClampNeg (vp_nar .boolean 1) → (∀ b, b ≠ (γ 9 3) → x12 b = F b) → x12 (γ 9 3) = .inl (I .boolean, 2000, .inl x11) → R x12) →
  (∀ (x1 : Int32) (x2 : Int32) (x3 : Int32) (x4 : Int32) (x5 : Int32) (x6 : Int32) (x7 : Int32) (x8 : Nat → Int32) (x9 : Nat → Int32) (x10 : Nat → va_E) (x11 : Int32) (x12 : Int32), fI (F q1) 0 = x1 → fI (F q1) 1 = x2 → fI (F q1) 4 = x3 → gB x4 (-1) 1999 → tr_RModel_setOf a2 x1 x2 x3 x4 → x4.toInt < 0 → a2.toInt = 0 → fI (F q1) 5 = x5 → gB x6 0 1 → tr_RRow_usesA x1 x5 x6 → x6.toInt ≠ 0 → fR (F q0) 3 = (γ 9 3) → fI (F q1) 2 = x7 → F (γ 9 3) = .inl (I .boolean, 2000, .inl x8) → x9 = upd x8 x7.toNatClampNeg (vp_nar .boolean 1) → (∀ b, b ≠ (γ 9 3) → x10 b = F b) → x10 (γ 9 3) = .inl (I .boolean, 2000, .inl x9) → fI (x10 q1) 0 = x1 → fI (x10 q1) 6 = x11 → gB x12 0 1 → tr_RRow_usesB x1 x11 x12 → x12.toInt = 0 → R x10) →
  (∀ (x1 : Int32) (x2 : Int32) (x3 : Int32) (x4 : Int32) (x5 : Int32) (x6 : Int32) (x7 : Int32) (x8 : Nat → Int32) (x9 : Nat → Int32) (x10 : Nat → va_E) (x11 : Int32) (x12 : Int32) (x13 : Int32) (x14 : Nat → Int32) (x15 : Nat → va_E), fI (F q1) 0 = x1 → fI (F q1) 1 = x2 → fI (F q1) 4 = x3 → gB x4 (-1) 1999 → tr_RModel_setOf a2 x1 x2 x3 x4 → x4.toInt < 0 → a2.toInt = 0 → fI (F q1) 5 = x5 → gB x6 0 1 → tr_RRow_usesA x1 x5 x6 → x6.toInt ≠ 0 → fR (F q0) 3 = (γ 9 3) → fI (F q1) 2 = x7 → F (γ 9 3) = .inl (I .boolean, 2000, .inl x8) → x9 = upd x8 x7.toNatClampNeg (vp_nar .boolean 1) → (∀ b, b ≠ (γ 9 3) → x10 b = F b) → x10 (γ 9 3) = .inl (I .boolean, 2000, .inl x9) → fI (x10 q1) 0 = x1 → fI (x10 q1) 6 = x11 → gB x12 0 1 → tr_RRow_usesB x1 x11 x12 → x12.toInt ≠ 0 → fR (x10 q0) 3 = (γ 9 3) → fI (x10 q1) 3 = x13 → x10 (γ 9 3) = .inl (I .boolean, 2000, .inl x9) → x14 = upd x9 x13.toNatClampNeg (vp_nar .boolean 1) → (∀ b, b ≠ (γ 9 3) → x15 b = x10 b) → x15 (γ 9 3) = .inl (I .boolean, 2000, .inl x14) → R x15) →
  (∀ (x1 : Int32) (x2 : Int32) (x3 : Int32) (x4 : Int32), fI (F q1) 0 = x1 → fI (F q1) 1 = x2 → fI (F q1) 4 = x3 → gB x4 (-1) 1999 → tr_RModel_setOf a2 x1 x2 x3 x4 → x4.toInt < 0 → a2.toInt ≠ 0 → x1.toInt ≠ 21 → R F) →
  (∀ (x1 : Int32) (x2 : Int32) (x3 : Int32) (x4 : Int32) (x5 : Nat → Int32) (x6 : Nat → Int32) (x7 : Nat → va_E), fI (F q1) 0 = x1 → fI (F q1) 1 = x2 → fI (F q1) 4 = x3 → gB x4 (-1) 1999 → tr_RModel_setOf a2 x1 x2 x3 x4 → x4.toInt < 0 → a2.toInt ≠ 0 → x1.toInt = 21 → fR (F q0) 3 = (γ 9 3) → F (γ 9 3) = .inl (I .boolean, 2000, .inl x5) → x6 = upd x5 x3.toNatClampNeg (vp_nar .boolean 1) → (∀ b, b ≠ (γ 9 3) → x7 b = F b) → x7 (γ 9 3) = .inl (I .boolean, 2000, .inl x6) → R x7) →
  (∀ (x1 : Int32) (x2 : Int32) (x3 : Int32) (x4 : Int32) (x5 : Nat → Int32) (x6 : Nat → Int32) (x7 : Nat → va_E) (x8 : Int32) (x9 : Int32) (x10 : Int32) (x11 : Int32), fI (F q1) 0 = x1 → fI (F q1) 1 = x2 → fI (F q1) 4 = x3 → gB x4 (-1) 1999 → tr_RModel_setOf a2 x1 x2 x3 x4 → 0 ≤ x4.toInt → fR (F q0) 3 = (γ 9 3) → F (γ 9 3) = .inl (I .boolean, 2000, .inl x5) → x6 = upd x5 x4.toNatClampNeg (vp_nar .boolean 1) → (∀ b, b ≠ (γ 9 3) → x7 b = F b) → x7 (γ 9 3) = .inl (I .boolean, 2000, .inl x6) → a2.toInt = 0 → fI (x7 q1) 0 = x1 → fI (x7 q1) 5 = x8 → gB x9 0 1 → tr_RRow_usesA x1 x8 x9 → x9.toInt = 0 → fI (x7 q1) 6 = x10 → gB x11 0 1 → tr_RRow_usesB x1 x10 x11 → x11.toInt = 0 → R x7) →
  (∀ (x1 : Int32) (x2 : Int32) (x3 : Int32) (x4 : Int32) (x5 : Nat → Int32) (x6 : Nat → Int32) (x7 : Nat → va_E) (x8 : Int32) (x9 : Int32) (x10 : Int32) (x11 : Int32) (x12 : Int32) (x13 : Nat → Int32) (x14 : Nat → va_E), fI (F q1) 0 = x1 → fI (F q1) 1 = x2 → fI (F q1) 4 = x3 → gB x4 (-1) 1999 → tr_RModel_setOf a2 x1 x2 x3 x4 → 0 ≤ x4.toInt → fR (F q0) 3 = (γ 9 3) → F (γ 9 3) = .inl (I .boolean, 2000, .inl x5) → x6 = upd x5 x4.toNatClampNeg (vp_nar .boolean 1) → (∀ b, b ≠ (γ 9 3) → x7 b = F b) → x7 (γ 9 3) = .inl (I .boolean, 2000, .inl x6) → a2.toInt = 0 → fI (x7 q1) 0 = x1 → fI (x7 q1) 5 = x8 → gB x9 0 1 → tr_RRow_usesA x1 x8 x9 → x9.toInt = 0 → fI (x7 q1) 6 = x10 → gB x11 0 1 → tr_RRow_usesB x1 x10 x11 → x11.toInt ≠ 0 → fR (x7 q0) 3 = (γ 9 3) → fI (x7 q1) 3 = x12 → x7 (γ 9 3) = .inl (I .boolean, 2000, .inl x6) → x13 = upd x6 x12.toNatClampNeg (vp_nar .boolean 1) → (∀ b, b ≠ (γ 9 3) → x14 b = x7 b) → x14 (γ 9 3) = .inl (I .boolean, 2000, .inl x13) → R x14) →
  (∀ (x1 : Int32) (x2 : Int32) (x3 : Int32) (x4 : Int32) (x5 : Nat → Int32) (x6 : Nat → Int32) (x7 : Nat → va_E) (x8 : Int32) (x9 : Int32) (x10 : Int32) (x11 : Nat → Int32) (x12 : Nat → va_E) (x13 : Int32) (x14 : Int32), fI (F q1) 0 = x1 → fI (F q1) 1 = x2 → fI (F q1) 4 = x3 → gB x4 (-1) 1999 → tr_RModel_setOf a2 x1 x2 x3 x4 → 0 ≤ x4.toInt → fR (F q0) 3 = (γ 9 3) → F (γ 9 3) = .inl (I .boolean, 2000, .inl x5) → x6 = upd x5 x4.toNatClampNeg (vp_nar .boolean 1) → (∀ b, b ≠ (γ 9 3) → x7 b = F b) → x7 (γ 9 3) = .inl (I .boolean, 2000, .inl x6) → a2.toInt = 0 → fI (x7 q1) 0 = x1 → fI (x7 q1) 5 = x8 → gB x9 0 1 → tr_RRow_usesA x1 x8 x9 → x9.toInt ≠ 0 → fR (x7 q0) 3 = (γ 9 3) → fI (x7 q1) 2 = x10 → x7 (γ 9 3) = .inl (I .boolean, 2000, .inl x6) → x11 = upd x6 x10.toNatClampNeg (vp_nar .boolean 1) → (∀ b, b ≠ (γ 9 3) → x12 b = x7 b) → x12 (γ 9 3) = .inl (I .boolean, 2000, .inl x11) → fI (x12 q1) 0 = x1 → fI (x12 q1) 6 = x13 → gB x14 0 1 → tr_RRow_usesB x1 x13 x14 → x14.toInt = 0 → R x12) →
  (∀ (x1 : Int32) (x2 : Int32) (x3 : Int32) (x4 : Int32) (x5 : Nat → Int32) (x6 : Nat → Int32) (x7 : Nat → va_E) (x8 : Int32) (x9 : Int32) (x10 : Int32) (x11 : Nat → Int32) (x12 : Nat → va_E) (x13 : Int32) (x14 : Int32) (x15 : Int32) (x16 : Nat → Int32) (x17 : Nat → va_E), fI (F q1) 0 = x1 → fI (F q1) 1 = x2 → fI (F q1) 4 = x3 → gB x4 (-1) 1999 → tr_RModel_setOf a2 x1 x2 x3 x4 → 0 ≤ x4.toInt → fR (F q0) 3 = (γ 9 3) → F (γ 9 3) = .inl (I .boolean, 2000, .inl x5) → x6 = upd x5 x4.toNatClampNeg (vp_nar .boolean 1) → (∀ b, b ≠ (γ 9 3) → x7 b = F b) → x7 (γ 9 3) = .inl (I .boolean, 2000, .inl x6) → a2.toInt = 0 → fI (x7 q1) 0 = x1 → fI (x7 q1) 5 = x8 → gB x9 0 1 → tr_RRow_usesA x1 x8 x9 → x9.toInt ≠ 0 → fR (x7 q0) 3 = (γ 9 3) → fI (x7 q1) 2 = x10 → x7 (γ 9 3) = .inl (I .boolean, 2000, .inl x6) → x11 = upd x6 x10.toNatClampNeg (vp_nar .boolean 1) → (∀ b, b ≠ (γ 9 3) → x12 b = x7 b) → x12 (γ 9 3) = .inl (I .boolean, 2000, .inl x11) → fI (x12 q1) 0 = x1 → fI (x12 q1) 6 = x13 → gB x14 0 1 → tr_RRow_usesB x1 x13 x14 → x14.toInt ≠ 0 → fR (x12 q0) 3 = (γ 9 3) → fI (x12 q1) 3 = x15 → x12 (γ 9 3) = .inl (I .boolean, 2000, .inl x11) → x16 = upd x11 x15.toNatClampNeg (vp_nar .boolean 1) → (∀ b, b ≠ (γ 9 3) → x17 b = x12 b) → x17 (γ 9 3) = .inl (I .boolean, 2000, .inl x16) → R x17) →
  (∀ (x1 : Int32) (x2 : Int32) (x3 : Int32) (x4 : Int32) (x5 : Nat → Int32) (x6 : Nat → Int32) (x7 : Nat → va_E), fI (F q1) 0 = x1 → fI (F q1) 1 = x2 → fI (F q1) 4 = x3 → gB x4 (-1) 1999 → tr_RModel_setOf a2 x1 x2 x3 x4 → 0 ≤ x4.toInt → fR (F q0) 3 = (γ 9 3) → F (γ 9 3) = .inl (I .boolean, 2000, .inl x5) → x6 = upd x5 x4.toNatClampNeg (vp_nar .boolean 1) → (∀ b, b ≠ (γ 9 3) → x7 b = F b) → x7 (γ 9 3) = .inl (I .boolean, 2000, .inl x6) → a2.toInt ≠ 0 → fI (x7 q1) 0 = x1 → x1.toInt ≠ 21 → R x7) →
  (∀ (x1 : Int32) (x2 : Int32) (x3 : Int32) (x4 : Int32) (x5 : Nat → Int32) (x6 : Nat → Int32) (x7 : Nat → va_E) (x8 : Nat → Int32) (x9 : Nat → va_E), fI (F q1) 0 = x1 → fI (F q1) 1 = x2 → fI (F q1) 4 = x3 → gB x4 (-1) 1999 → tr_RModel_setOf a2 x1 x2 x3 x4 → 0 ≤ x4.toInt → fR (F q0) 3 = (γ 9 3) → F (γ 9 3) = .inl (I .boolean, 2000, .inl x5) → x6 = upd x5 x4.toNatClampNeg (vp_nar .boolean 1) → (∀ b, b ≠ (γ 9 3) → x7 b = F b) → x7 (γ 9 3) = .inl (I .boolean, 2000, .inl x6) → a2.toInt ≠ 0 → fI (x7 q1) 0 = x1 → x1.toInt = 21 → fR (x7 q0) 3 = (γ 9 3) → fI (x7 q1) 4 = x3 → x7 (γ 9 3) = .inl (I .boolean, 2000, .inl x6) → x8 = upd x6 x3.toNatClampNeg (vp_nar .boolean 1) → (∀ b, b ≠ (γ 9 3) → x9 b = x7 b) → x9 (γ 9 3) = .inl (I .boolean, 2000, .inl x8) → R x9) →
  R o1
abbrev ky_4437_SpillForgeModel_stand : gKey := (cX17_stand, 4, "SpillForgeModel", none, [], "stand", fun _ _ => True)
def pt_4437_SpillForgeModel_stand (D : va_G) (I : FieldType → ClassId) (γ el : Nat → Nat → Nat) (P4432 : List Nat) (F4433 : Nat → va_E) (q4434 : Nat) (q4435 : Nat) (p4436 : Int32) : Option Value → va_W → Nat → Nat → Prop := fun r w dc ds => ∃ (F4852 : Nat → va_E), r = none ∧ w = va_pl P4432 F4852 ∧ RS D I P4432 F4852 γ el ∧ rStr γ [] F4433 F4852 ∧ dc ≤ 0 ∧ ds ≤ 0 ∧ tr_RModel_stand D I γ el F4433 q4434 q4435 p4436 F4852
set_option maxRecDepth 100000 in
set_option maxHeartbeats 4000000 in
theorem ct_4437_SpillForgeModel_stand (l : Launch) (hl0 : l.stackTraces = false) (D : va_G) (I : FieldType → ClassId) (γ el : Nat → Nat → Nat) (P4432 : List Nat) (F4433 : Nat → va_E) (q4434 : Nat) (q4435 : Nat) (p4436 : Int32) (hT : RS D I P4432 F4433 γ el) (htq4434 : rKd γ q4434 10) (htq4435 : rKd γ q4435 1) (bp4436 : gB p4436 0 1) : CtA (gV D I) l yX17_stand cX17_stand 4 none 2 41 0 0 [.ref q4434, .ref q4435, .int p4436] (va_pl P4432 F4433) (pt_4437_SpillForgeModel_stand D I γ el P4432 F4433 q4434 q4435 p4436) gNA := by
  refine CtA_of hl0 (by decide) (Nat.le_of_ble_eq_true rfl) ?_
  refine G_aload_n 1 dr_cX17_stand_0 rfl ?_
  refine G_iload_n 2 dr_cX17_stand_1 rfl ?_
  have hm4438 : q4435 ∈ P4432 := RS_m hT htq4435 (by decide)
  obtain ⟨p4440, p4441, p4442, p4443, p4444, p4445, p4446, he4439, bp4440, bp4441, bp4444, bp4445, bp4446, r4447, r4448, r4449, r4450, r4451⟩ := show rk_1 γ q4435 (F4433 q4435) from RS_o hT htq4435
  have bp4442 := gB_any p4442
  have bp4443 := gB_any p4443
  have fq4452 : fI (F4433 q4435) 0 = p4440 := by rw [he4439]; rfl
  have fq4453 : fI (F4433 q4435) 1 = p4441 := by rw [he4439]; rfl
  have fq4454 : fI (F4433 q4435) 4 = p4444 := by rw [he4439]; rfl
  refine Gw_callS (As := [.ref q4435, .int p4436]) (gV_ok D I) (cp_1784_SpillForgeModel_setOf l hl0 D I P4432 F4433 q4435 p4436 p4440 p4441 p4442 p4443 p4444 p4445 p4446 hm4438 he4439 bp4436 bp4440 bp4441 bp4444 bp4445 bp4446) dr_cX17_stand_2 ⟨wr_10_178, wr_1_14, wr_10_180, by decide, rfl, (Nat.le_of_ble_eq_true rfl), (Nat.le_of_ble_eq_true rfl)⟩ wr_10_179 (show 0 + 0 ≤ 0 by first | omega | decide) (show 0 + 0 ≤ 0 by first | omega | decide) (Nat.le_of_ble_eq_true rfl) (fun r4458 w4459 dc4455 ds4456 hp4457 => ?_) (fun _ _ _ _ _ z => z.elim)
  obtain ⟨o4460, rfl, rfl, hdc, hds, bo4460, ht4461⟩ := hp4457
  change G _ _ _ _ _ _ _ (.int o4460 :: _) _ _ _
  refine G_widen (cs' := 0) (sl' := 0) (by omega) (by omega) ?_
  refine G_istore_n (L' := [(3, .int o4460), (0, .ref q4434), (1, .ref q4435), (2, .int p4436)]) dr_cX17_stand_5 (Nat.le_of_ble_eq_true rfl) rfl ?_
  refine G_iload_n 0 dr_cX17_stand_6 rfl ?_
  refine G_if_lt 17 dr_cX17_stand_7 (by decide +kernel) (fun hc4462 => ?_) (fun hc4462 => ?_)
  · have r4463 : o4460.toInt < 0 := gj_lt hc4462 (show Int32.toInt 0 = 0 by decide)
    have bo4460' : gB o4460 (-1) (-1) := ⟨by omega, by omega⟩
    refine G_iload_n 3 dr_cX17_stand_17 rfl ?_
    refine G_if_eq 41 dr_cX17_stand_18 (by decide +kernel) (fun hc4464 => ?_) (fun hc4464 => ?_)
    · have r4465 : p4436.toInt = 0 := gj_eq hc4464 (show Int32.toInt 0 = 0 by decide)
      have bp4436' : gB p4436 0 0 := ⟨by omega, by omega⟩
      refine G_aload_n 2 dr_cX17_stand_41 rfl ?_
      have fq4466 : fI (F4433 q4435) 5 = p4445 := by rw [he4439]; rfl
      refine Gw_callV (As := []) (gV_ok D I) (cp_1675_Row_usesA l hl0 D I P4432 F4433 q4435 p4440 p4441 p4442 p4443 p4444 p4445 p4446 hm4438 he4439 bp4440 bp4441 bp4444 bp4445 bp4446) dr_cX17_stand_42 ⟨wr_10_192, wr_1_39, wr_10_195, by decide, rfl, (Nat.le_of_ble_eq_true rfl), (Nat.le_of_ble_eq_true rfl)⟩ wr_10_193 wr_10_194 hm4438 he4439 rfl (show 0 + 0 ≤ 0 by first | omega | decide) (show 0 + 0 ≤ 0 by first | omega | decide) (Nat.le_of_ble_eq_true rfl) (fun r4470 w4471 dc4467 ds4468 hp4469 => ?_) (fun _ _ _ _ _ z => z.elim)
      obtain ⟨o4472, rfl, rfl, hdc, hds, bo4472, x4473, ht4474⟩ := hp4469
      change G _ _ _ _ _ _ _ (.int o4472 :: _) _ _ _
      refine G_widen (cs' := 0) (sl' := 0) (by omega) (by omega) ?_
      refine G_if_eq 58 dr_cX17_stand_45 (by decide +kernel) (fun hc4475 => ?_) (fun hc4475 => ?_)
      · have r4476 : o4472.toInt = 0 := gj_eq hc4475 (show Int32.toInt 0 = 0 by decide)
        have bo4472' : gB o4472 0 0 := ⟨by omega, by omega⟩
        refine G_aload_n 2 dr_cX17_stand_58 rfl ?_
        have fq4477 : fI (F4433 q4435) 6 = p4446 := by rw [he4439]; rfl
        refine Gw_callV (As := []) (gV_ok D I) (cp_1699_Row_usesB l hl0 D I P4432 F4433 q4435 p4440 p4441 p4442 p4443 p4444 p4445 p4446 hm4438 he4439 bp4440 bp4441 bp4444 bp4445 bp4446) dr_cX17_stand_59 ⟨wr_10_196, wr_1_39, wr_10_199, by decide, rfl, (Nat.le_of_ble_eq_true rfl), (Nat.le_of_ble_eq_true rfl)⟩ wr_10_197 wr_10_198 hm4438 he4439 rfl (show 0 + 0 ≤ 0 by first | omega | decide) (show 0 + 0 ≤ 0 by first | omega | decide) (Nat.le_of_ble_eq_true rfl) (fun r4481 w4482 dc4478 ds4479 hp4480 => ?_) (fun _ _ _ _ _ z => z.elim)
        obtain ⟨o4483, rfl, rfl, hdc, hds, bo4483, x4484, ht4485⟩ := hp4480
        change G _ _ _ _ _ _ _ (.int o4483 :: _) _ _ _
        refine G_widen (cs' := 0) (sl' := 0) (by omega) (by omega) ?_
        refine G_if_eq 75 dr_cX17_stand_62 (by decide +kernel) (fun hc4486 => ?_) (fun hc4486 => ?_)
        · have r4487 : o4483.toInt = 0 := gj_eq hc4486 (show Int32.toInt 0 = 0 by decide)
          have bo4483' : gB o4483 0 0 := ⟨by omega, by omega⟩
          exact G_vretA dr_cX17_stand_75 rfl (Nat.le_of_ble_eq_true rfl) (Nat.le_of_ble_eq_true rfl) ⟨F4433, rfl, rfl, hT, (rStr_rf (γ := γ) (W := []) (F := F4433)), (Nat.le_of_ble_eq_true rfl), (Nat.le_of_ble_eq_true rfl), (fun R c1 c2 c3 c4 c5 c6 c7 c8 c9 c10 c11 c12 => c1 p4440 p4441 p4444 o4460 p4445 o4472 p4446 o4483 fq4452 fq4453 fq4454 bo4460 ht4461 r4463 r4465 fq4466 bo4472 ht4474 r4476 fq4477 bo4483 ht4485 r4487)⟩
        · have r4488 : o4483.toInt ≠ 0 := gj_neq hc4486 (show Int32.toInt 0 = 0 by decide)
          have bo4483' : gB o4483 1 1 := ⟨by omega, by omega⟩
          refine G_aload_n 1 dr_cX17_stand_65 rfl ?_
          have hm4489 : q4434 ∈ P4432 := RS_m hT htq4434 (by decide)
          obtain ⟨q4491, q4492, p4493, p4494, p4495, p4496, p4497, p4498, p4499, p4500, p4501, p4502, p4503, p4504, p4505, p4506, p4507, he4490, hB4534, ht4508, ht4509, ht4510, ht4511, ht4512, ht4513, ht4514, ht4515, ht4516, ht4517, ht4518, ht4519, ht4520, ht4521, ht4522, ht4523, ht4524, ht4525, ht4526, ht4527, ht4528, ht4529, ht4530, ht4531, hB4535⟩ := show rk_10 γ (F4433 q4434) from RS_o hT htq4434
          have fq4536 : fR (F4433 q4434) 3 = (γ 9 3) := by rw [he4490]; rfl
          refine Gp_get 3 hm4489 he4490 dr_cX17_stand_66 (gk_X17 D I) (Nat.le_of_ble_eq_true rfl) wr_7_77 rfl ?_
          refine G_aload_n 2 dr_cX17_stand_69 rfl ?_
          have fq4537 : fI (F4433 q4435) 3 = p4443 := by rw [he4439]; rfl
          refine Gp_get 3 hm4438 he4439 dr_cX17_stand_70 (gk_X15 D I) (Nat.le_of_ble_eq_true rfl) wr_9_190 rfl ?_
          refine G_iconst 1 dr_cX17_stand_73 (by decide +kernel) ?_
          have hm4538 : (γ 9 3) ∈ P4432 := RS_m hT ht4513 (by decide)
          obtain ⟨f4540, he4539, bf4540⟩ := show rk_14 I (F4433 (γ 9 3)) from RS_o hT ht4513
          refine Gp_zast 3 hm4538 he4539 dr_cX17_stand_74 rfl (gB_inr (by omega) (by omega)) (fun F4541 e4542 n4543 => ?_)
          obtain ⟨f4544, hf4544⟩ : ∃ z, z = upd f4540 p4443.toNatClampNeg (vp_nar .boolean 1) := ⟨_, rfl⟩
          rw [← hf4544] at e4542
          have he4545 : F4541 q4435 = .inr (20, [.int p4440, .int p4441, .int p4442, .int p4443, .int p4444, .int p4445, .int p4446]) := (n4543 q4435 (rn_oa he4439 he4539)).trans he4439
          have he4546 : F4541 q4434 = .inr (22, [.ref (γ 9 0), .ref (γ 9 1), .ref (γ 9 2), .ref (γ 9 3), .ref (γ 9 4), .ref (γ 9 5), .ref (γ 9 6), .ref (γ 9 7), .ref (γ 9 8), .int p4493, .int p4494, .int p4495, .int p4496, .int p4497, .int p4498, .ref (γ 9 15), .ref (γ 9 16), .ref (γ 9 17), .ref (γ 9 18), .ref (γ 9 19), .ref (γ 9 20), .ref (γ 9 21), .ref (γ 9 22), .int p4499, .int p4500, .int p4501, .int p4502, .int p4503, .ref q4491, .ref (γ 9 29), .int p4504, .ref (γ 9 31), .int p4505, .int p4506, .int p4507, .ref q4492]) := (n4543 q4434 (rn_oa he4490 he4539)).trans he4490
          have he4547 : F4541 (γ 9 3) = .inl (I .boolean, 2000, .inl f4544) := e4542
          have hs4548 : rStr γ [] F4433 F4541 := rStr_put (rStr_rf (γ := γ) (W := []) (F := F4433)) n4543 ht4513 (by decide)
          have bf4544 : gF f4544 0 1 := gF_upd hf4544 bf4540 (gB_w (gBl (show Int32.toInt 1 = 1 by decide)) (by decide) (by decide))
          have hT4549 : RS D I P4432 F4541 γ el := RS_set hT n4543 ht4513 (by decide) ⟨f4544, he4547, bf4544⟩
          exact G_vretA dr_cX17_stand_75 rfl (Nat.le_of_ble_eq_true rfl) (Nat.le_of_ble_eq_true rfl) ⟨F4541, rfl, rfl, hT4549, hs4548, (Nat.le_of_ble_eq_true rfl), (Nat.le_of_ble_eq_true rfl), (fun R c1 c2 c3 c4 c5 c6 c7 c8 c9 c10 c11 c12 => c2 p4440 p4441 p4444 o4460 p4445 o4472 p4446 o4483 p4443 f4540 f4544 F4541 fq4452 fq4453 fq4454 bo4460 ht4461 r4463 r4465 fq4466 bo4472 ht4474 r4476 fq4477 bo4483 ht4485 r4488 fq4536 fq4537 he4539 hf4544 n4543 he4547)⟩
      · have r4550 : o4472.toInt ≠ 0 := gj_neq hc4475 (show Int32.toInt 0 = 0 by decide)
        have bo4472' : gB o4472 1 1 := ⟨by omega, by omega⟩
        refine G_aload_n 1 dr_cX17_stand_48 rfl ?_
        have hm4551 : q4434 ∈ P4432 := RS_m hT htq4434 (by decide)
        obtain ⟨q4553, q4554, p4555, p4556, p4557, p4558, p4559, p4560, p4561, p4562, p4563, p4564, p4565, p4566, p4567, p4568, p4569, he4552, hB4596, ht4570, ht4571, ht4572, ht4573, ht4574, ht4575, ht4576, ht4577, ht4578, ht4579, ht4580, ht4581, ht4582, ht4583, ht4584, ht4585, ht4586, ht4587, ht4588, ht4589, ht4590, ht4591, ht4592, ht4593, hB4597⟩ := show rk_10 γ (F4433 q4434) from RS_o hT htq4434
        have fq4598 : fR (F4433 q4434) 3 = (γ 9 3) := by rw [he4552]; rfl
        refine Gp_get 3 hm4551 he4552 dr_cX17_stand_49 (gk_X17 D I) (Nat.le_of_ble_eq_true rfl) wr_7_77 rfl ?_
        refine G_aload_n 2 dr_cX17_stand_52 rfl ?_
        have fq4599 : fI (F4433 q4435) 2 = p4442 := by rw [he4439]; rfl
        refine Gp_get 2 hm4438 he4439 dr_cX17_stand_53 (gk_X15 D I) (Nat.le_of_ble_eq_true rfl) wr_9_186 rfl ?_
        refine G_iconst 1 dr_cX17_stand_56 (by decide +kernel) ?_
        have hm4600 : (γ 9 3) ∈ P4432 := RS_m hT ht4575 (by decide)
        obtain ⟨f4602, he4601, bf4602⟩ := show rk_14 I (F4433 (γ 9 3)) from RS_o hT ht4575
        refine Gp_zast 3 hm4600 he4601 dr_cX17_stand_57 rfl (gB_inr (by omega) (by omega)) (fun F4603 e4604 n4605 => ?_)
        obtain ⟨f4606, hf4606⟩ : ∃ z, z = upd f4602 p4442.toNatClampNeg (vp_nar .boolean 1) := ⟨_, rfl⟩
        rw [← hf4606] at e4604
        have he4607 : F4603 q4435 = .inr (20, [.int p4440, .int p4441, .int p4442, .int p4443, .int p4444, .int p4445, .int p4446]) := (n4605 q4435 (rn_oa he4439 he4601)).trans he4439
        have he4608 : F4603 q4434 = .inr (22, [.ref (γ 9 0), .ref (γ 9 1), .ref (γ 9 2), .ref (γ 9 3), .ref (γ 9 4), .ref (γ 9 5), .ref (γ 9 6), .ref (γ 9 7), .ref (γ 9 8), .int p4555, .int p4556, .int p4557, .int p4558, .int p4559, .int p4560, .ref (γ 9 15), .ref (γ 9 16), .ref (γ 9 17), .ref (γ 9 18), .ref (γ 9 19), .ref (γ 9 20), .ref (γ 9 21), .ref (γ 9 22), .int p4561, .int p4562, .int p4563, .int p4564, .int p4565, .ref q4553, .ref (γ 9 29), .int p4566, .ref (γ 9 31), .int p4567, .int p4568, .int p4569, .ref q4554]) := (n4605 q4434 (rn_oa he4552 he4601)).trans he4552
        have he4609 : F4603 (γ 9 3) = .inl (I .boolean, 2000, .inl f4606) := e4604
        have hs4610 : rStr γ [] F4433 F4603 := rStr_put (rStr_rf (γ := γ) (W := []) (F := F4433)) n4605 ht4575 (by decide)
        have bf4606 : gF f4606 0 1 := gF_upd hf4606 bf4602 (gB_w (gBl (show Int32.toInt 1 = 1 by decide)) (by decide) (by decide))
        refine G_aload_n 2 dr_cX17_stand_58 rfl ?_
        have hT4611 : RS D I P4432 F4603 γ el := RS_set hT n4605 ht4575 (by decide) ⟨f4606, he4609, bf4606⟩
        have fq4612 : fI (F4603 q4435) 0 = p4440 := by rw [he4607]; rfl
        have fq4613 : fI (F4603 q4435) 6 = p4446 := by rw [he4607]; rfl
        refine Gw_callV (As := []) (gV_ok D I) (cp_1699_Row_usesB l hl0 D I P4432 F4603 q4435 p4440 p4441 p4442 p4443 p4444 p4445 p4446 hm4438 he4607 bp4440 bp4441 bp4444 bp4445 bp4446) dr_cX17_stand_59 ⟨wr_10_196, wr_1_39, wr_10_199, by decide, rfl, (Nat.le_of_ble_eq_true rfl), (Nat.le_of_ble_eq_true rfl)⟩ wr_10_197 wr_10_198 hm4438 he4607 rfl (show 0 + 0 ≤ 0 by first | omega | decide) (show 0 + 0 ≤ 0 by first | omega | decide) (Nat.le_of_ble_eq_true rfl) (fun r4617 w4618 dc4614 ds4615 hp4616 => ?_) (fun _ _ _ _ _ z => z.elim)
        obtain ⟨o4619, rfl, rfl, hdc, hds, bo4619, x4620, ht4621⟩ := hp4616
        change G _ _ _ _ _ _ _ (.int o4619 :: _) _ _ _
        refine G_widen (cs' := 0) (sl' := 0) (by omega) (by omega) ?_
        refine G_if_eq 75 dr_cX17_stand_62 (by decide +kernel) (fun hc4622 => ?_) (fun hc4622 => ?_)
        · have r4623 : o4619.toInt = 0 := gj_eq hc4622 (show Int32.toInt 0 = 0 by decide)
          have bo4619' : gB o4619 0 0 := ⟨by omega, by omega⟩
          exact G_vretA dr_cX17_stand_75 rfl (Nat.le_of_ble_eq_true rfl) (Nat.le_of_ble_eq_true rfl) ⟨F4603, rfl, rfl, hT4611, hs4610, (Nat.le_of_ble_eq_true rfl), (Nat.le_of_ble_eq_true rfl), (fun R c1 c2 c3 c4 c5 c6 c7 c8 c9 c10 c11 c12 => c3 p4440 p4441 p4444 o4460 p4445 o4472 p4442 f4602 f4606 F4603 p4446 o4619 fq4452 fq4453 fq4454 bo4460 ht4461 r4463 r4465 fq4466 bo4472 ht4474 r4550 fq4598 fq4599 he4601 hf4606 n4605 he4609 fq4612 fq4613 bo4619 ht4621 r4623)⟩
        · have r4624 : o4619.toInt ≠ 0 := gj_neq hc4622 (show Int32.toInt 0 = 0 by decide)
          have bo4619' : gB o4619 1 1 := ⟨by omega, by omega⟩
          refine G_aload_n 1 dr_cX17_stand_65 rfl ?_
          have fq4625 : fR (F4603 q4434) 3 = (γ 9 3) := by rw [he4608]; rfl
          refine Gp_get 3 hm4551 he4608 dr_cX17_stand_66 (gk_X17 D I) (Nat.le_of_ble_eq_true rfl) wr_7_77 rfl ?_
          refine G_aload_n 2 dr_cX17_stand_69 rfl ?_
          have fq4626 : fI (F4603 q4435) 3 = p4443 := by rw [he4607]; rfl
          refine Gp_get 3 hm4438 he4607 dr_cX17_stand_70 (gk_X15 D I) (Nat.le_of_ble_eq_true rfl) wr_9_190 rfl ?_
          refine G_iconst 1 dr_cX17_stand_73 (by decide +kernel) ?_
          refine Gp_zast 3 hm4600 he4609 dr_cX17_stand_74 rfl (gB_inr (by omega) (by omega)) (fun F4627 e4628 n4629 => ?_)
          obtain ⟨f4630, hf4630⟩ : ∃ z, z = upd f4606 p4443.toNatClampNeg (vp_nar .boolean 1) := ⟨_, rfl⟩
          rw [← hf4630] at e4628
          have he4631 : F4627 q4435 = .inr (20, [.int p4440, .int p4441, .int p4442, .int p4443, .int p4444, .int p4445, .int p4446]) := (n4629 q4435 (rn_oa he4607 he4609)).trans he4607
          have he4632 : F4627 q4434 = .inr (22, [.ref (γ 9 0), .ref (γ 9 1), .ref (γ 9 2), .ref (γ 9 3), .ref (γ 9 4), .ref (γ 9 5), .ref (γ 9 6), .ref (γ 9 7), .ref (γ 9 8), .int p4555, .int p4556, .int p4557, .int p4558, .int p4559, .int p4560, .ref (γ 9 15), .ref (γ 9 16), .ref (γ 9 17), .ref (γ 9 18), .ref (γ 9 19), .ref (γ 9 20), .ref (γ 9 21), .ref (γ 9 22), .int p4561, .int p4562, .int p4563, .int p4564, .int p4565, .ref q4553, .ref (γ 9 29), .int p4566, .ref (γ 9 31), .int p4567, .int p4568, .int p4569, .ref q4554]) := (n4629 q4434 (rn_oa he4608 he4609)).trans he4608
          have he4633 : F4627 (γ 9 3) = .inl (I .boolean, 2000, .inl f4630) := e4628
          have hs4634 : rStr γ [] F4433 F4627 := rStr_put hs4610 n4629 ht4575 (by decide)
          have bf4630 : gF f4630 0 1 := gF_upd hf4630 bf4606 (gB_w (gBl (show Int32.toInt 1 = 1 by decide)) (by decide) (by decide))
          have hT4635 : RS D I P4432 F4627 γ el := RS_set hT4611 n4629 ht4575 (by decide) ⟨f4630, he4633, bf4630⟩
          exact G_vretA dr_cX17_stand_75 rfl (Nat.le_of_ble_eq_true rfl) (Nat.le_of_ble_eq_true rfl) ⟨F4627, rfl, rfl, hT4635, hs4634, (Nat.le_of_ble_eq_true rfl), (Nat.le_of_ble_eq_true rfl), (fun R c1 c2 c3 c4 c5 c6 c7 c8 c9 c10 c11 c12 => c4 p4440 p4441 p4444 o4460 p4445 o4472 p4442 f4602 f4606 F4603 p4446 o4619 p4443 f4630 F4627 fq4452 fq4453 fq4454 bo4460 ht4461 r4463 r4465 fq4466 bo4472 ht4474 r4550 fq4598 fq4599 he4601 hf4606 n4605 he4609 fq4612 fq4613 bo4619 ht4621 r4624 fq4625 fq4626 he4609 hf4630 n4629 he4633)⟩
    · have r4636 : p4436.toInt ≠ 0 := gj_neq hc4464 (show Int32.toInt 0 = 0 by decide)
      have bp4436' : gB p4436 1 1 := ⟨by omega, by omega⟩
      refine G_aload_n 2 dr_cX17_stand_21 rfl ?_
      refine Gp_get 0 hm4438 he4439 dr_cX17_stand_22 (gk_X15 D I) (Nat.le_of_ble_eq_true rfl) wr_9_177 rfl ?_
      refine G_bipush 21 dr_cX17_stand_25 (by decide +kernel) ?_
      refine G_icmp_ne 40 dr_cX17_stand_27 (by decide +kernel) (fun hc4637 => ?_) (fun hc4637 => ?_)
      · have r4638 : p4440.toInt ≠ 21 := gj_neq hc4637 (show Int32.toInt 21 = 21 by decide)
        exact G_vretA dr_cX17_stand_40 rfl (Nat.le_of_ble_eq_true rfl) (Nat.le_of_ble_eq_true rfl) ⟨F4433, rfl, rfl, hT, (rStr_rf (γ := γ) (W := []) (F := F4433)), (Nat.le_of_ble_eq_true rfl), (Nat.le_of_ble_eq_true rfl), (fun R c1 c2 c3 c4 c5 c6 c7 c8 c9 c10 c11 c12 => c5 p4440 p4441 p4444 o4460 fq4452 fq4453 fq4454 bo4460 ht4461 r4463 r4636 r4638)⟩
      · have r4639 : p4440.toInt = 21 := gj_eq hc4637 (show Int32.toInt 21 = 21 by decide)
        have bp4440' : gB p4440 21 21 := ⟨by omega, by omega⟩
        refine G_aload_n 1 dr_cX17_stand_30 rfl ?_
        have hm4640 : q4434 ∈ P4432 := RS_m hT htq4434 (by decide)
        obtain ⟨q4642, q4643, p4644, p4645, p4646, p4647, p4648, p4649, p4650, p4651, p4652, p4653, p4654, p4655, p4656, p4657, p4658, he4641, hB4685, ht4659, ht4660, ht4661, ht4662, ht4663, ht4664, ht4665, ht4666, ht4667, ht4668, ht4669, ht4670, ht4671, ht4672, ht4673, ht4674, ht4675, ht4676, ht4677, ht4678, ht4679, ht4680, ht4681, ht4682, hB4686⟩ := show rk_10 γ (F4433 q4434) from RS_o hT htq4434
        have fq4687 : fR (F4433 q4434) 3 = (γ 9 3) := by rw [he4641]; rfl
        refine Gp_get 3 hm4640 he4641 dr_cX17_stand_31 (gk_X17 D I) (Nat.le_of_ble_eq_true rfl) wr_7_77 rfl ?_
        refine G_aload_n 2 dr_cX17_stand_34 rfl ?_
        refine Gp_get 4 hm4438 he4439 dr_cX17_stand_35 (gk_X15 D I) (Nat.le_of_ble_eq_true rfl) wr_9_193 rfl ?_
        refine G_iconst 1 dr_cX17_stand_38 (by decide +kernel) ?_
        have hm4688 : (γ 9 3) ∈ P4432 := RS_m hT ht4664 (by decide)
        obtain ⟨f4690, he4689, bf4690⟩ := show rk_14 I (F4433 (γ 9 3)) from RS_o hT ht4664
        refine Gp_zast 3 hm4688 he4689 dr_cX17_stand_39 rfl (gB_in bp4444 (by decide) (by decide)) (fun F4691 e4692 n4693 => ?_)
        obtain ⟨f4694, hf4694⟩ : ∃ z, z = upd f4690 p4444.toNatClampNeg (vp_nar .boolean 1) := ⟨_, rfl⟩
        rw [← hf4694] at e4692
        have he4695 : F4691 q4435 = .inr (20, [.int p4440, .int p4441, .int p4442, .int p4443, .int p4444, .int p4445, .int p4446]) := (n4693 q4435 (rn_oa he4439 he4689)).trans he4439
        have he4696 : F4691 q4434 = .inr (22, [.ref (γ 9 0), .ref (γ 9 1), .ref (γ 9 2), .ref (γ 9 3), .ref (γ 9 4), .ref (γ 9 5), .ref (γ 9 6), .ref (γ 9 7), .ref (γ 9 8), .int p4644, .int p4645, .int p4646, .int p4647, .int p4648, .int p4649, .ref (γ 9 15), .ref (γ 9 16), .ref (γ 9 17), .ref (γ 9 18), .ref (γ 9 19), .ref (γ 9 20), .ref (γ 9 21), .ref (γ 9 22), .int p4650, .int p4651, .int p4652, .int p4653, .int p4654, .ref q4642, .ref (γ 9 29), .int p4655, .ref (γ 9 31), .int p4656, .int p4657, .int p4658, .ref q4643]) := (n4693 q4434 (rn_oa he4641 he4689)).trans he4641
        have he4697 : F4691 (γ 9 3) = .inl (I .boolean, 2000, .inl f4694) := e4692
        have hs4698 : rStr γ [] F4433 F4691 := rStr_put (rStr_rf (γ := γ) (W := []) (F := F4433)) n4693 ht4664 (by decide)
        have bf4694 : gF f4694 0 1 := gF_upd hf4694 bf4690 (gB_w (gBl (show Int32.toInt 1 = 1 by decide)) (by decide) (by decide))
        have hT4699 : RS D I P4432 F4691 γ el := RS_set hT n4693 ht4664 (by decide) ⟨f4694, he4697, bf4694⟩
        exact G_vretA dr_cX17_stand_40 rfl (Nat.le_of_ble_eq_true rfl) (Nat.le_of_ble_eq_true rfl) ⟨F4691, rfl, rfl, hT4699, hs4698, (Nat.le_of_ble_eq_true rfl), (Nat.le_of_ble_eq_true rfl), (fun R c1 c2 c3 c4 c5 c6 c7 c8 c9 c10 c11 c12 => c6 p4440 p4441 p4444 o4460 f4690 f4694 F4691 fq4452 fq4453 fq4454 bo4460 ht4461 r4463 r4636 r4639 fq4687 he4689 hf4694 n4693 he4697)⟩
  · have r4700 : 0 ≤ o4460.toInt := gj_nlt hc4462 (show Int32.toInt 0 = 0 by decide)
    have bo4460' : gB o4460 0 1999 := ⟨by omega, by omega⟩
    refine G_aload_n 1 dr_cX17_stand_10 rfl ?_
    have hm4701 : q4434 ∈ P4432 := RS_m hT htq4434 (by decide)
    obtain ⟨q4703, q4704, p4705, p4706, p4707, p4708, p4709, p4710, p4711, p4712, p4713, p4714, p4715, p4716, p4717, p4718, p4719, he4702, hB4746, ht4720, ht4721, ht4722, ht4723, ht4724, ht4725, ht4726, ht4727, ht4728, ht4729, ht4730, ht4731, ht4732, ht4733, ht4734, ht4735, ht4736, ht4737, ht4738, ht4739, ht4740, ht4741, ht4742, ht4743, hB4747⟩ := show rk_10 γ (F4433 q4434) from RS_o hT htq4434
    have fq4748 : fR (F4433 q4434) 3 = (γ 9 3) := by rw [he4702]; rfl
    refine Gp_get 3 hm4701 he4702 dr_cX17_stand_11 (gk_X17 D I) (Nat.le_of_ble_eq_true rfl) wr_7_77 rfl ?_
    refine G_iload_n 0 dr_cX17_stand_14 rfl ?_
    refine G_iconst 1 dr_cX17_stand_15 (by decide +kernel) ?_
    have hm4749 : (γ 9 3) ∈ P4432 := RS_m hT ht4725 (by decide)
    obtain ⟨f4751, he4750, bf4751⟩ := show rk_14 I (F4433 (γ 9 3)) from RS_o hT ht4725
    refine Gp_zast 3 hm4749 he4750 dr_cX17_stand_16 rfl (gB_in bo4460' (by decide) (by decide)) (fun F4752 e4753 n4754 => ?_)
    obtain ⟨f4755, hf4755⟩ : ∃ z, z = upd f4751 o4460.toNatClampNeg (vp_nar .boolean 1) := ⟨_, rfl⟩
    rw [← hf4755] at e4753
    have he4756 : F4752 q4435 = .inr (20, [.int p4440, .int p4441, .int p4442, .int p4443, .int p4444, .int p4445, .int p4446]) := (n4754 q4435 (rn_oa he4439 he4750)).trans he4439
    have he4757 : F4752 q4434 = .inr (22, [.ref (γ 9 0), .ref (γ 9 1), .ref (γ 9 2), .ref (γ 9 3), .ref (γ 9 4), .ref (γ 9 5), .ref (γ 9 6), .ref (γ 9 7), .ref (γ 9 8), .int p4705, .int p4706, .int p4707, .int p4708, .int p4709, .int p4710, .ref (γ 9 15), .ref (γ 9 16), .ref (γ 9 17), .ref (γ 9 18), .ref (γ 9 19), .ref (γ 9 20), .ref (γ 9 21), .ref (γ 9 22), .int p4711, .int p4712, .int p4713, .int p4714, .int p4715, .ref q4703, .ref (γ 9 29), .int p4716, .ref (γ 9 31), .int p4717, .int p4718, .int p4719, .ref q4704]) := (n4754 q4434 (rn_oa he4702 he4750)).trans he4702
    have he4758 : F4752 (γ 9 3) = .inl (I .boolean, 2000, .inl f4755) := e4753
    have hs4759 : rStr γ [] F4433 F4752 := rStr_put (rStr_rf (γ := γ) (W := []) (F := F4433)) n4754 ht4725 (by decide)
    have bf4755 : gF f4755 0 1 := gF_upd hf4755 bf4751 (gB_w (gBl (show Int32.toInt 1 = 1 by decide)) (by decide) (by decide))
    refine G_iload_n 3 dr_cX17_stand_17 rfl ?_
    refine G_if_eq 41 dr_cX17_stand_18 (by decide +kernel) (fun hc4760 => ?_) (fun hc4760 => ?_)
    · have r4761 : p4436.toInt = 0 := gj_eq hc4760 (show Int32.toInt 0 = 0 by decide)
      have bp4436' : gB p4436 0 0 := ⟨by omega, by omega⟩
      refine G_aload_n 2 dr_cX17_stand_41 rfl ?_
      have hT4762 : RS D I P4432 F4752 γ el := RS_set hT n4754 ht4725 (by decide) ⟨f4755, he4758, bf4755⟩
      have fq4763 : fI (F4752 q4435) 0 = p4440 := by rw [he4756]; rfl
      have fq4764 : fI (F4752 q4435) 5 = p4445 := by rw [he4756]; rfl
      refine Gw_callV (As := []) (gV_ok D I) (cp_1675_Row_usesA l hl0 D I P4432 F4752 q4435 p4440 p4441 p4442 p4443 p4444 p4445 p4446 hm4438 he4756 bp4440 bp4441 bp4444 bp4445 bp4446) dr_cX17_stand_42 ⟨wr_10_192, wr_1_39, wr_10_195, by decide, rfl, (Nat.le_of_ble_eq_true rfl), (Nat.le_of_ble_eq_true rfl)⟩ wr_10_193 wr_10_194 hm4438 he4756 rfl (show 0 + 0 ≤ 0 by first | omega | decide) (show 0 + 0 ≤ 0 by first | omega | decide) (Nat.le_of_ble_eq_true rfl) (fun r4768 w4769 dc4765 ds4766 hp4767 => ?_) (fun _ _ _ _ _ z => z.elim)
      obtain ⟨o4770, rfl, rfl, hdc, hds, bo4770, x4771, ht4772⟩ := hp4767
      change G _ _ _ _ _ _ _ (.int o4770 :: _) _ _ _
      refine G_widen (cs' := 0) (sl' := 0) (by omega) (by omega) ?_
      refine G_if_eq 58 dr_cX17_stand_45 (by decide +kernel) (fun hc4773 => ?_) (fun hc4773 => ?_)
      · have r4774 : o4770.toInt = 0 := gj_eq hc4773 (show Int32.toInt 0 = 0 by decide)
        have bo4770' : gB o4770 0 0 := ⟨by omega, by omega⟩
        refine G_aload_n 2 dr_cX17_stand_58 rfl ?_
        have fq4775 : fI (F4752 q4435) 6 = p4446 := by rw [he4756]; rfl
        refine Gw_callV (As := []) (gV_ok D I) (cp_1699_Row_usesB l hl0 D I P4432 F4752 q4435 p4440 p4441 p4442 p4443 p4444 p4445 p4446 hm4438 he4756 bp4440 bp4441 bp4444 bp4445 bp4446) dr_cX17_stand_59 ⟨wr_10_196, wr_1_39, wr_10_199, by decide, rfl, (Nat.le_of_ble_eq_true rfl), (Nat.le_of_ble_eq_true rfl)⟩ wr_10_197 wr_10_198 hm4438 he4756 rfl (show 0 + 0 ≤ 0 by first | omega | decide) (show 0 + 0 ≤ 0 by first | omega | decide) (Nat.le_of_ble_eq_true rfl) (fun r4779 w4780 dc4776 ds4777 hp4778 => ?_) (fun _ _ _ _ _ z => z.elim)
        obtain ⟨o4781, rfl, rfl, hdc, hds, bo4781, x4782, ht4783⟩ := hp4778
        change G _ _ _ _ _ _ _ (.int o4781 :: _) _ _ _
        refine G_widen (cs' := 0) (sl' := 0) (by omega) (by omega) ?_
        refine G_if_eq 75 dr_cX17_stand_62 (by decide +kernel) (fun hc4784 => ?_) (fun hc4784 => ?_)
        · have r4785 : o4781.toInt = 0 := gj_eq hc4784 (show Int32.toInt 0 = 0 by decide)
          have bo4781' : gB o4781 0 0 := ⟨by omega, by omega⟩
          exact G_vretA dr_cX17_stand_75 rfl (Nat.le_of_ble_eq_true rfl) (Nat.le_of_ble_eq_true rfl) ⟨F4752, rfl, rfl, hT4762, hs4759, (Nat.le_of_ble_eq_true rfl), (Nat.le_of_ble_eq_true rfl), (fun R c1 c2 c3 c4 c5 c6 c7 c8 c9 c10 c11 c12 => c7 p4440 p4441 p4444 o4460 f4751 f4755 F4752 p4445 o4770 p4446 o4781 fq4452 fq4453 fq4454 bo4460 ht4461 r4700 fq4748 he4750 hf4755 n4754 he4758 r4761 fq4763 fq4764 bo4770 ht4772 r4774 fq4775 bo4781 ht4783 r4785)⟩
        · have r4786 : o4781.toInt ≠ 0 := gj_neq hc4784 (show Int32.toInt 0 = 0 by decide)
          have bo4781' : gB o4781 1 1 := ⟨by omega, by omega⟩
          refine G_aload_n 1 dr_cX17_stand_65 rfl ?_
          have fq4787 : fR (F4752 q4434) 3 = (γ 9 3) := by rw [he4757]; rfl
          refine Gp_get 3 hm4701 he4757 dr_cX17_stand_66 (gk_X17 D I) (Nat.le_of_ble_eq_true rfl) wr_7_77 rfl ?_
          refine G_aload_n 2 dr_cX17_stand_69 rfl ?_
          have fq4788 : fI (F4752 q4435) 3 = p4443 := by rw [he4756]; rfl
          refine Gp_get 3 hm4438 he4756 dr_cX17_stand_70 (gk_X15 D I) (Nat.le_of_ble_eq_true rfl) wr_9_190 rfl ?_
          refine G_iconst 1 dr_cX17_stand_73 (by decide +kernel) ?_
          refine Gp_zast 3 hm4749 he4758 dr_cX17_stand_74 rfl (gB_inr (by omega) (by omega)) (fun F4789 e4790 n4791 => ?_)
          obtain ⟨f4792, hf4792⟩ : ∃ z, z = upd f4755 p4443.toNatClampNeg (vp_nar .boolean 1) := ⟨_, rfl⟩
          rw [← hf4792] at e4790
          have he4793 : F4789 q4435 = .inr (20, [.int p4440, .int p4441, .int p4442, .int p4443, .int p4444, .int p4445, .int p4446]) := (n4791 q4435 (rn_oa he4756 he4758)).trans he4756
          have he4794 : F4789 q4434 = .inr (22, [.ref (γ 9 0), .ref (γ 9 1), .ref (γ 9 2), .ref (γ 9 3), .ref (γ 9 4), .ref (γ 9 5), .ref (γ 9 6), .ref (γ 9 7), .ref (γ 9 8), .int p4705, .int p4706, .int p4707, .int p4708, .int p4709, .int p4710, .ref (γ 9 15), .ref (γ 9 16), .ref (γ 9 17), .ref (γ 9 18), .ref (γ 9 19), .ref (γ 9 20), .ref (γ 9 21), .ref (γ 9 22), .int p4711, .int p4712, .int p4713, .int p4714, .int p4715, .ref q4703, .ref (γ 9 29), .int p4716, .ref (γ 9 31), .int p4717, .int p4718, .int p4719, .ref q4704]) := (n4791 q4434 (rn_oa he4757 he4758)).trans he4757
          have he4795 : F4789 (γ 9 3) = .inl (I .boolean, 2000, .inl f4792) := e4790
          have hs4796 : rStr γ [] F4433 F4789 := rStr_put hs4759 n4791 ht4725 (by decide)
          have bf4792 : gF f4792 0 1 := gF_upd hf4792 bf4755 (gB_w (gBl (show Int32.toInt 1 = 1 by decide)) (by decide) (by decide))
          have hT4797 : RS D I P4432 F4789 γ el := RS_set hT4762 n4791 ht4725 (by decide) ⟨f4792, he4795, bf4792⟩
          exact G_vretA dr_cX17_stand_75 rfl (Nat.le_of_ble_eq_true rfl) (Nat.le_of_ble_eq_true rfl) ⟨F4789, rfl, rfl, hT4797, hs4796, (Nat.le_of_ble_eq_true rfl), (Nat.le_of_ble_eq_true rfl), (fun R c1 c2 c3 c4 c5 c6 c7 c8 c9 c10 c11 c12 => c8 p4440 p4441 p4444 o4460 f4751 f4755 F4752 p4445 o4770 p4446 o4781 p4443 f4792 F4789 fq4452 fq4453 fq4454 bo4460 ht4461 r4700 fq4748 he4750 hf4755 n4754 he4758 r4761 fq4763 fq4764 bo4770 ht4772 r4774 fq4775 bo4781 ht4783 r4786 fq4787 fq4788 he4758 hf4792 n4791 he4795)⟩
      · have r4798 : o4770.toInt ≠ 0 := gj_neq hc4773 (show Int32.toInt 0 = 0 by decide)
        have bo4770' : gB o4770 1 1 := ⟨by omega, by omega⟩
        refine G_aload_n 1 dr_cX17_stand_48 rfl ?_
        have fq4799 : fR (F4752 q4434) 3 = (γ 9 3) := by rw [he4757]; rfl
        refine Gp_get 3 hm4701 he4757 dr_cX17_stand_49 (gk_X17 D I) (Nat.le_of_ble_eq_true rfl) wr_7_77 rfl ?_
        refine G_aload_n 2 dr_cX17_stand_52 rfl ?_
        have fq4800 : fI (F4752 q4435) 2 = p4442 := by rw [he4756]; rfl
        refine Gp_get 2 hm4438 he4756 dr_cX17_stand_53 (gk_X15 D I) (Nat.le_of_ble_eq_true rfl) wr_9_186 rfl ?_
        refine G_iconst 1 dr_cX17_stand_56 (by decide +kernel) ?_
        refine Gp_zast 3 hm4749 he4758 dr_cX17_stand_57 rfl (gB_inr (by omega) (by omega)) (fun F4801 e4802 n4803 => ?_)
        obtain ⟨f4804, hf4804⟩ : ∃ z, z = upd f4755 p4442.toNatClampNeg (vp_nar .boolean 1) := ⟨_, rfl⟩
        rw [← hf4804] at e4802
        have he4805 : F4801 q4435 = .inr (20, [.int p4440, .int p4441, .int p4442, .int p4443, .int p4444, .int p4445, .int p4446]) := (n4803 q4435 (rn_oa he4756 he4758)).trans he4756
        have he4806 : F4801 q4434 = .inr (22, [.ref (γ 9 0), .ref (γ 9 1), .ref (γ 9 2), .ref (γ 9 3), .ref (γ 9 4), .ref (γ 9 5), .ref (γ 9 6), .ref (γ 9 7), .ref (γ 9 8), .int p4705, .int p4706, .int p4707, .int p4708, .int p4709, .int p4710, .ref (γ 9 15), .ref (γ 9 16), .ref (γ 9 17), .ref (γ 9 18), .ref (γ 9 19), .ref (γ 9 20), .ref (γ 9 21), .ref (γ 9 22), .int p4711, .int p4712, .int p4713, .int p4714, .int p4715, .ref q4703, .ref (γ 9 29), .int p4716, .ref (γ 9 31), .int p4717, .int p4718, .int p4719, .ref q4704]) := (n4803 q4434 (rn_oa he4757 he4758)).trans he4757
        have he4807 : F4801 (γ 9 3) = .inl (I .boolean, 2000, .inl f4804) := e4802
        have hs4808 : rStr γ [] F4433 F4801 := rStr_put hs4759 n4803 ht4725 (by decide)
        have bf4804 : gF f4804 0 1 := gF_upd hf4804 bf4755 (gB_w (gBl (show Int32.toInt 1 = 1 by decide)) (by decide) (by decide))
        refine G_aload_n 2 dr_cX17_stand_58 rfl ?_
        have hT4809 : RS D I P4432 F4801 γ el := RS_set hT4762 n4803 ht4725 (by decide) ⟨f4804, he4807, bf4804⟩
        have fq4810 : fI (F4801 q4435) 0 = p4440 := by rw [he4805]; rfl
        have fq4811 : fI (F4801 q4435) 6 = p4446 := by rw [he4805]; rfl
        refine Gw_callV (As := []) (gV_ok D I) (cp_1699_Row_usesB l hl0 D I P4432 F4801 q4435 p4440 p4441 p4442 p4443 p4444 p4445 p4446 hm4438 he4805 bp4440 bp4441 bp4444 bp4445 bp4446) dr_cX17_stand_59 ⟨wr_10_196, wr_1_39, wr_10_199, by decide, rfl, (Nat.le_of_ble_eq_true rfl), (Nat.le_of_ble_eq_true rfl)⟩ wr_10_197 wr_10_198 hm4438 he4805 rfl (show 0 + 0 ≤ 0 by first | omega | decide) (show 0 + 0 ≤ 0 by first | omega | decide) (Nat.le_of_ble_eq_true rfl) (fun r4815 w4816 dc4812 ds4813 hp4814 => ?_) (fun _ _ _ _ _ z => z.elim)
        obtain ⟨o4817, rfl, rfl, hdc, hds, bo4817, x4818, ht4819⟩ := hp4814
        change G _ _ _ _ _ _ _ (.int o4817 :: _) _ _ _
        refine G_widen (cs' := 0) (sl' := 0) (by omega) (by omega) ?_
        refine G_if_eq 75 dr_cX17_stand_62 (by decide +kernel) (fun hc4820 => ?_) (fun hc4820 => ?_)
        · have r4821 : o4817.toInt = 0 := gj_eq hc4820 (show Int32.toInt 0 = 0 by decide)
          have bo4817' : gB o4817 0 0 := ⟨by omega, by omega⟩
          exact G_vretA dr_cX17_stand_75 rfl (Nat.le_of_ble_eq_true rfl) (Nat.le_of_ble_eq_true rfl) ⟨F4801, rfl, rfl, hT4809, hs4808, (Nat.le_of_ble_eq_true rfl), (Nat.le_of_ble_eq_true rfl), (fun R c1 c2 c3 c4 c5 c6 c7 c8 c9 c10 c11 c12 => c9 p4440 p4441 p4444 o4460 f4751 f4755 F4752 p4445 o4770 p4442 f4804 F4801 p4446 o4817 fq4452 fq4453 fq4454 bo4460 ht4461 r4700 fq4748 he4750 hf4755 n4754 he4758 r4761 fq4763 fq4764 bo4770 ht4772 r4798 fq4799 fq4800 he4758 hf4804 n4803 he4807 fq4810 fq4811 bo4817 ht4819 r4821)⟩
        · have r4822 : o4817.toInt ≠ 0 := gj_neq hc4820 (show Int32.toInt 0 = 0 by decide)
          have bo4817' : gB o4817 1 1 := ⟨by omega, by omega⟩
          refine G_aload_n 1 dr_cX17_stand_65 rfl ?_
          have fq4823 : fR (F4801 q4434) 3 = (γ 9 3) := by rw [he4806]; rfl
          refine Gp_get 3 hm4701 he4806 dr_cX17_stand_66 (gk_X17 D I) (Nat.le_of_ble_eq_true rfl) wr_7_77 rfl ?_
          refine G_aload_n 2 dr_cX17_stand_69 rfl ?_
          have fq4824 : fI (F4801 q4435) 3 = p4443 := by rw [he4805]; rfl
          refine Gp_get 3 hm4438 he4805 dr_cX17_stand_70 (gk_X15 D I) (Nat.le_of_ble_eq_true rfl) wr_9_190 rfl ?_
          refine G_iconst 1 dr_cX17_stand_73 (by decide +kernel) ?_
          refine Gp_zast 3 hm4749 he4807 dr_cX17_stand_74 rfl (gB_inr (by omega) (by omega)) (fun F4825 e4826 n4827 => ?_)
          obtain ⟨f4828, hf4828⟩ : ∃ z, z = upd f4804 p4443.toNatClampNeg (vp_nar .boolean 1) := ⟨_, rfl⟩
          rw [← hf4828] at e4826
          have he4829 : F4825 q4435 = .inr (20, [.int p4440, .int p4441, .int p4442, .int p4443, .int p4444, .int p4445, .int p4446]) := (n4827 q4435 (rn_oa he4805 he4807)).trans he4805
          have he4830 : F4825 q4434 = .inr (22, [.ref (γ 9 0), .ref (γ 9 1), .ref (γ 9 2), .ref (γ 9 3), .ref (γ 9 4), .ref (γ 9 5), .ref (γ 9 6), .ref (γ 9 7), .ref (γ 9 8), .int p4705, .int p4706, .int p4707, .int p4708, .int p4709, .int p4710, .ref (γ 9 15), .ref (γ 9 16), .ref (γ 9 17), .ref (γ 9 18), .ref (γ 9 19), .ref (γ 9 20), .ref (γ 9 21), .ref (γ 9 22), .int p4711, .int p4712, .int p4713, .int p4714, .int p4715, .ref q4703, .ref (γ 9 29), .int p4716, .ref (γ 9 31), .int p4717, .int p4718, .int p4719, .ref q4704]) := (n4827 q4434 (rn_oa he4806 he4807)).trans he4806
          have he4831 : F4825 (γ 9 3) = .inl (I .boolean, 2000, .inl f4828) := e4826
          have hs4832 : rStr γ [] F4433 F4825 := rStr_put hs4808 n4827 ht4725 (by decide)
          have bf4828 : gF f4828 0 1 := gF_upd hf4828 bf4804 (gB_w (gBl (show Int32.toInt 1 = 1 by decide)) (by decide) (by decide))
          have hT4833 : RS D I P4432 F4825 γ el := RS_set hT4809 n4827 ht4725 (by decide) ⟨f4828, he4831, bf4828⟩
          exact G_vretA dr_cX17_stand_75 rfl (Nat.le_of_ble_eq_true rfl) (Nat.le_of_ble_eq_true rfl) ⟨F4825, rfl, rfl, hT4833, hs4832, (Nat.le_of_ble_eq_true rfl), (Nat.le_of_ble_eq_true rfl), (fun R c1 c2 c3 c4 c5 c6 c7 c8 c9 c10 c11 c12 => c10 p4440 p4441 p4444 o4460 f4751 f4755 F4752 p4445 o4770 p4442 f4804 F4801 p4446 o4817 p4443 f4828 F4825 fq4452 fq4453 fq4454 bo4460 ht4461 r4700 fq4748 he4750 hf4755 n4754 he4758 r4761 fq4763 fq4764 bo4770 ht4772 r4798 fq4799 fq4800 he4758 hf4804 n4803 he4807 fq4810 fq4811 bo4817 ht4819 r4822 fq4823 fq4824 he4807 hf4828 n4827 he4831)⟩
    · have r4834 : p4436.toInt ≠ 0 := gj_neq hc4760 (show Int32.toInt 0 = 0 by decide)
      have bp4436' : gB p4436 1 1 := ⟨by omega, by omega⟩
      refine G_aload_n 2 dr_cX17_stand_21 rfl ?_
      have fq4835 : fI (F4752 q4435) 0 = p4440 := by rw [he4756]; rfl
      refine Gp_get 0 hm4438 he4756 dr_cX17_stand_22 (gk_X15 D I) (Nat.le_of_ble_eq_true rfl) wr_9_177 rfl ?_
      refine G_bipush 21 dr_cX17_stand_25 (by decide +kernel) ?_
      refine G_icmp_ne 40 dr_cX17_stand_27 (by decide +kernel) (fun hc4836 => ?_) (fun hc4836 => ?_)
      · have r4837 : p4440.toInt ≠ 21 := gj_neq hc4836 (show Int32.toInt 21 = 21 by decide)
        have hT4838 : RS D I P4432 F4752 γ el := RS_set hT n4754 ht4725 (by decide) ⟨f4755, he4758, bf4755⟩
        exact G_vretA dr_cX17_stand_40 rfl (Nat.le_of_ble_eq_true rfl) (Nat.le_of_ble_eq_true rfl) ⟨F4752, rfl, rfl, hT4838, hs4759, (Nat.le_of_ble_eq_true rfl), (Nat.le_of_ble_eq_true rfl), (fun R c1 c2 c3 c4 c5 c6 c7 c8 c9 c10 c11 c12 => c11 p4440 p4441 p4444 o4460 f4751 f4755 F4752 fq4452 fq4453 fq4454 bo4460 ht4461 r4700 fq4748 he4750 hf4755 n4754 he4758 r4834 fq4835 r4837)⟩
      · have r4839 : p4440.toInt = 21 := gj_eq hc4836 (show Int32.toInt 21 = 21 by decide)
        have bp4440' : gB p4440 21 21 := ⟨by omega, by omega⟩
        refine G_aload_n 1 dr_cX17_stand_30 rfl ?_
        have fq4840 : fR (F4752 q4434) 3 = (γ 9 3) := by rw [he4757]; rfl
        refine Gp_get 3 hm4701 he4757 dr_cX17_stand_31 (gk_X17 D I) (Nat.le_of_ble_eq_true rfl) wr_7_77 rfl ?_
        refine G_aload_n 2 dr_cX17_stand_34 rfl ?_
        have fq4841 : fI (F4752 q4435) 4 = p4444 := by rw [he4756]; rfl
        refine Gp_get 4 hm4438 he4756 dr_cX17_stand_35 (gk_X15 D I) (Nat.le_of_ble_eq_true rfl) wr_9_193 rfl ?_
        refine G_iconst 1 dr_cX17_stand_38 (by decide +kernel) ?_
        refine Gp_zast 3 hm4749 he4758 dr_cX17_stand_39 rfl (gB_in bp4444 (by decide) (by decide)) (fun F4842 e4843 n4844 => ?_)
        obtain ⟨f4845, hf4845⟩ : ∃ z, z = upd f4755 p4444.toNatClampNeg (vp_nar .boolean 1) := ⟨_, rfl⟩
        rw [← hf4845] at e4843
        have he4846 : F4842 q4435 = .inr (20, [.int p4440, .int p4441, .int p4442, .int p4443, .int p4444, .int p4445, .int p4446]) := (n4844 q4435 (rn_oa he4756 he4758)).trans he4756
        have he4847 : F4842 q4434 = .inr (22, [.ref (γ 9 0), .ref (γ 9 1), .ref (γ 9 2), .ref (γ 9 3), .ref (γ 9 4), .ref (γ 9 5), .ref (γ 9 6), .ref (γ 9 7), .ref (γ 9 8), .int p4705, .int p4706, .int p4707, .int p4708, .int p4709, .int p4710, .ref (γ 9 15), .ref (γ 9 16), .ref (γ 9 17), .ref (γ 9 18), .ref (γ 9 19), .ref (γ 9 20), .ref (γ 9 21), .ref (γ 9 22), .int p4711, .int p4712, .int p4713, .int p4714, .int p4715, .ref q4703, .ref (γ 9 29), .int p4716, .ref (γ 9 31), .int p4717, .int p4718, .int p4719, .ref q4704]) := (n4844 q4434 (rn_oa he4757 he4758)).trans he4757
        have he4848 : F4842 (γ 9 3) = .inl (I .boolean, 2000, .inl f4845) := e4843
        have hs4849 : rStr γ [] F4433 F4842 := rStr_put hs4759 n4844 ht4725 (by decide)
        have n4850 : ∀ b, b ≠ (γ 9 3) → F4842 b = F4433 b := fun b hb => (n4844 b hb).trans (n4754 b hb)
        have bf4845 : gF f4845 0 1 := gF_upd hf4845 bf4755 (gB_w (gBl (show Int32.toInt 1 = 1 by decide)) (by decide) (by decide))
        have hT4851 : RS D I P4432 F4842 γ el := RS_set hT n4850 ht4725 (by decide) ⟨f4845, he4848, bf4845⟩
        exact G_vretA dr_cX17_stand_40 rfl (Nat.le_of_ble_eq_true rfl) (Nat.le_of_ble_eq_true rfl) ⟨F4842, rfl, rfl, hT4851, hs4849, (Nat.le_of_ble_eq_true rfl), (Nat.le_of_ble_eq_true rfl), (fun R c1 c2 c3 c4 c5 c6 c7 c8 c9 c10 c11 c12 => c12 p4440 p4441 p4444 o4460 f4751 f4755 F4752 f4845 F4842 fq4452 fq4453 fq4454 bo4460 ht4461 r4700 fq4748 he4750 hf4755 n4754 he4758 r4834 fq4835 r4839 fq4840 fq4841 he4758 hf4845 n4844 he4848)⟩
/- tr_RBlock_way2: result -/
def tr_RBlock_way2 (a1 : Int32) (a0_first : Int32) (a0_second : Int32) (o1 : Int32) : Prop := ∀ R : (Int32) → Prop,
  (a1.toInt ≠ 0 → R a0_second) →
  (a1.toInt = 0 → R a0_first) →
  R o1
