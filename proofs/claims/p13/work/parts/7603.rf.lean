section
theorem dr_cJx4a65c_add_7a177_32 : decode cJx4a65c_add_7a177 32 = .ok (.aload_n 0, 1) := by decide +kernel
theorem dr_cJx4a65c_add_7a177_33 : decode cJx4a65c_add_7a177 33 = .ok (.invokevirtual 129, 3) := by decide +kernel
theorem dr_cJx4a65c_add_7a177_36 : decode cJx4a65c_add_7a177 36 = .ok (.astore 4, 2) := by decide +kernel
theorem dr_cJx4a65c_clear_da8c8_0 : decode cJx4a65c_clear_da8c8 0 = .ok (.aload_n 0, 1) := by decide +kernel
theorem dr_cJx4a65c_clear_da8c8_1 : decode cJx4a65c_clear_da8c8 1 = .ok (.dup, 1) := by decide +kernel
theorem dr_cJx4a65c_clear_da8c8_2 : decode cJx4a65c_clear_da8c8 2 = .ok (.getfield 63, 3) := by decide +kernel
theorem dr_cJx4a65c_clear_da8c8_5 : decode cJx4a65c_clear_da8c8 5 = .ok (.iconst 1, 1) := by decide +kernel
theorem dr_cJx4a65c_clear_da8c8_6 : decode cJx4a65c_clear_da8c8 6 = .ok (.iadd, 1) := by decide +kernel
theorem dr_cJx4a65c_clear_da8c8_7 : decode cJx4a65c_clear_da8c8 7 = .ok (.putfield 63, 3) := by decide +kernel
theorem dr_cJx4a65c_clear_da8c8_10 : decode cJx4a65c_clear_da8c8 10 = .ok (.aload_n 0, 1) := by decide +kernel
theorem dr_cJx4a65c_clear_da8c8_11 : decode cJx4a65c_clear_da8c8 11 = .ok (.getfield 9, 3) := by decide +kernel
theorem dr_cJx4a65c_clear_da8c8_14 : decode cJx4a65c_clear_da8c8 14 = .ok (.astore_n 1, 1) := by decide +kernel
theorem dr_cJx4a65c_clear_da8c8_15 : decode cJx4a65c_clear_da8c8 15 = .ok (.aload_n 0, 1) := by decide +kernel
theorem dr_cJx4a65c_clear_da8c8_16 : decode cJx4a65c_clear_da8c8 16 = .ok (.getfield 48, 3) := by decide +kernel
theorem dr_cJx4a65c_clear_da8c8_19 : decode cJx4a65c_clear_da8c8 19 = .ok (.istore_n 2, 1) := by decide +kernel
theorem dr_cJx4a65c_clear_da8c8_20 : decode cJx4a65c_clear_da8c8 20 = .ok (.aload_n 0, 1) := by decide +kernel
theorem dr_cJx4a65c_clear_da8c8_21 : decode cJx4a65c_clear_da8c8 21 = .ok (.iconst 0, 1) := by decide +kernel
theorem dr_cJx4a65c_clear_da8c8_22 : decode cJx4a65c_clear_da8c8 22 = .ok (.dup_x1, 1) := by decide +kernel
theorem dr_cJx4a65c_clear_da8c8_23 : decode cJx4a65c_clear_da8c8 23 = .ok (.putfield 48, 3) := by decide +kernel
theorem dr_cJx4a65c_clear_da8c8_26 : decode cJx4a65c_clear_da8c8 26 = .ok (.istore_n 3, 1) := by decide +kernel
theorem dr_cJx4a65c_clear_da8c8_27 : decode cJx4a65c_clear_da8c8 27 = .ok (.iload_n 3, 1) := by decide +kernel
theorem dr_cJx4a65c_clear_da8c8_28 : decode cJx4a65c_clear_da8c8 28 = .ok (.iload_n 2, 1) := by decide +kernel
theorem dr_cJx4a65c_clear_da8c8_29 : decode cJx4a65c_clear_da8c8 29 = .ok (.if_icmp .ge 13, 3) := by decide +kernel
theorem dr_cJx4a65c_clear_da8c8_42 : decode cJx4a65c_clear_da8c8 42 = .ok (.return_, 1) := by decide +kernel
theorem dr_cJx4a65c_clear_da8c8_32 : decode cJx4a65c_clear_da8c8 32 = .ok (.aload_n 1, 1) := by decide +kernel
theorem dr_cJx4a65c_clear_da8c8_33 : decode cJx4a65c_clear_da8c8 33 = .ok (.iload_n 3, 1) := by decide +kernel
theorem dr_cJx4a65c_clear_da8c8_34 : decode cJx4a65c_clear_da8c8 34 = .ok (.aconst_null, 1) := by decide +kernel
theorem dr_cJx4a65c_clear_da8c8_35 : decode cJx4a65c_clear_da8c8 35 = .ok (.aastore, 1) := by decide +kernel
theorem dr_cJx4a65c_clear_da8c8_36 : decode cJx4a65c_clear_da8c8 36 = .ok (.iinc 3 1, 3) := by decide +kernel
theorem dr_cJx4a65c_clear_da8c8_39 : decode cJx4a65c_clear_da8c8 39 = .ok (.goto (-12), 3) := by decide +kernel
theorem dr_cJx4a65c_fastRemove_b59b0_0 : decode cJx4a65c_fastRemove_b59b0 0 = .ok (.aload_n 0, 1) := by decide +kernel
theorem dr_cJx4a65c_fastRemove_b59b0_1 : decode cJx4a65c_fastRemove_b59b0 1 = .ok (.dup, 1) := by decide +kernel
theorem dr_cJx4a65c_fastRemove_b59b0_2 : decode cJx4a65c_fastRemove_b59b0 2 = .ok (.getfield 63, 3) := by decide +kernel
theorem dr_cJx4a65c_fastRemove_b59b0_5 : decode cJx4a65c_fastRemove_b59b0 5 = .ok (.iconst 1, 1) := by decide +kernel
theorem dr_cJx4a65c_fastRemove_b59b0_6 : decode cJx4a65c_fastRemove_b59b0 6 = .ok (.iadd, 1) := by decide +kernel
theorem dr_cJx4a65c_fastRemove_b59b0_7 : decode cJx4a65c_fastRemove_b59b0 7 = .ok (.putfield 63, 3) := by decide +kernel
theorem dr_cJx4a65c_fastRemove_b59b0_10 : decode cJx4a65c_fastRemove_b59b0 10 = .ok (.aload_n 0, 1) := by decide +kernel
theorem dr_cJx4a65c_fastRemove_b59b0_11 : decode cJx4a65c_fastRemove_b59b0 11 = .ok (.getfield 48, 3) := by decide +kernel
theorem dr_cJx4a65c_fastRemove_b59b0_14 : decode cJx4a65c_fastRemove_b59b0 14 = .ok (.iconst 1, 1) := by decide +kernel
theorem dr_cJx4a65c_fastRemove_b59b0_15 : decode cJx4a65c_fastRemove_b59b0 15 = .ok (.isub, 1) := by decide +kernel
theorem dr_cJx4a65c_fastRemove_b59b0_16 : decode cJx4a65c_fastRemove_b59b0 16 = .ok (.dup, 1) := by decide +kernel
theorem dr_cJx4a65c_fastRemove_b59b0_17 : decode cJx4a65c_fastRemove_b59b0 17 = .ok (.istore_n 3, 1) := by decide +kernel
theorem dr_cJx4a65c_fastRemove_b59b0_18 : decode cJx4a65c_fastRemove_b59b0 18 = .ok (.iload_n 2, 1) := by decide +kernel
theorem dr_cJx4a65c_fastRemove_b59b0_19 : decode cJx4a65c_fastRemove_b59b0 19 = .ok (.if_icmp .le 15, 3) := by decide +kernel
theorem dr_cJx4a65c_fastRemove_b59b0_34 : decode cJx4a65c_fastRemove_b59b0 34 = .ok (.aload_n 1, 1) := by decide +kernel
theorem dr_cJx4a65c_fastRemove_b59b0_35 : decode cJx4a65c_fastRemove_b59b0 35 = .ok (.aload_n 0, 1) := by decide +kernel
theorem dr_cJx4a65c_fastRemove_b59b0_36 : decode cJx4a65c_fastRemove_b59b0 36 = .ok (.iload_n 3, 1) := by decide +kernel
theorem dr_cJx4a65c_fastRemove_b59b0_37 : decode cJx4a65c_fastRemove_b59b0 37 = .ok (.dup_x1, 1) := by decide +kernel
theorem dr_cJx4a65c_fastRemove_b59b0_38 : decode cJx4a65c_fastRemove_b59b0 38 = .ok (.putfield 48, 3) := by decide +kernel
theorem dr_cJx4a65c_fastRemove_b59b0_41 : decode cJx4a65c_fastRemove_b59b0 41 = .ok (.aconst_null, 1) := by decide +kernel
theorem dr_cJx4a65c_fastRemove_b59b0_42 : decode cJx4a65c_fastRemove_b59b0 42 = .ok (.aastore, 1) := by decide +kernel
theorem dr_cJx4a65c_fastRemove_b59b0_43 : decode cJx4a65c_fastRemove_b59b0 43 = .ok (.return_, 1) := by decide +kernel
theorem dr_cJx4a65c_fastRemove_b59b0_22 : decode cJx4a65c_fastRemove_b59b0 22 = .ok (.aload_n 1, 1) := by decide +kernel
theorem dr_cJx4a65c_fastRemove_b59b0_23 : decode cJx4a65c_fastRemove_b59b0 23 = .ok (.iload_n 2, 1) := by decide +kernel
theorem dr_cJx4a65c_fastRemove_b59b0_24 : decode cJx4a65c_fastRemove_b59b0 24 = .ok (.iconst 1, 1) := by decide +kernel
theorem dr_cJx4a65c_fastRemove_b59b0_25 : decode cJx4a65c_fastRemove_b59b0 25 = .ok (.iadd, 1) := by decide +kernel
theorem dr_cJx4a65c_fastRemove_b59b0_26 : decode cJx4a65c_fastRemove_b59b0 26 = .ok (.aload_n 1, 1) := by decide +kernel
theorem dr_cJx4a65c_fastRemove_b59b0_27 : decode cJx4a65c_fastRemove_b59b0 27 = .ok (.iload_n 2, 1) := by decide +kernel
theorem dr_cJx4a65c_fastRemove_b59b0_28 : decode cJx4a65c_fastRemove_b59b0 28 = .ok (.iload_n 3, 1) := by decide +kernel
theorem dr_cJx4a65c_fastRemove_b59b0_29 : decode cJx4a65c_fastRemove_b59b0 29 = .ok (.iload_n 2, 1) := by decide +kernel
theorem dr_cJx4a65c_fastRemove_b59b0_30 : decode cJx4a65c_fastRemove_b59b0 30 = .ok (.isub, 1) := by decide +kernel
theorem dr_cJx4a65c_fastRemove_b59b0_31 : decode cJx4a65c_fastRemove_b59b0 31 = .ok (.invokestatic 112, 3) := by decide +kernel
theorem dr_cJx4a65c_remove_915e3_0 : decode cJx4a65c_remove_915e3 0 = .ok (.iload_n 1, 1) := by decide +kernel
theorem dr_cJx4a65c_remove_915e3_1 : decode cJx4a65c_remove_915e3 1 = .ok (.aload_n 0, 1) := by decide +kernel
theorem dr_cJx4a65c_remove_915e3_2 : decode cJx4a65c_remove_915e3 2 = .ok (.getfield 48, 3) := by decide +kernel
theorem dr_cJx4a65c_remove_915e3_5 : decode cJx4a65c_remove_915e3 5 = .ok (.invokestatic 118, 3) := by decide +kernel
theorem dr_cJx4a65c_remove_915e3_8 : decode cJx4a65c_remove_915e3 8 = .ok (.pop, 1) := by decide +kernel
theorem dr_cJx4a65c_remove_915e3_9 : decode cJx4a65c_remove_915e3 9 = .ok (.aload_n 0, 1) := by decide +kernel
theorem dr_cJx4a65c_remove_915e3_10 : decode cJx4a65c_remove_915e3 10 = .ok (.getfield 9, 3) := by decide +kernel
theorem dr_cJx4a65c_remove_915e3_13 : decode cJx4a65c_remove_915e3 13 = .ok (.astore_n 2, 1) := by decide +kernel
theorem dr_cJx4a65c_remove_915e3_14 : decode cJx4a65c_remove_915e3 14 = .ok (.aload_n 2, 1) := by decide +kernel
theorem dr_cJx4a65c_remove_915e3_15 : decode cJx4a65c_remove_915e3 15 = .ok (.iload_n 1, 1) := by decide +kernel
theorem dr_cJx4a65c_remove_915e3_16 : decode cJx4a65c_remove_915e3 16 = .ok (.aaload, 1) := by decide +kernel
theorem dr_cJx4a65c_remove_915e3_17 : decode cJx4a65c_remove_915e3 17 = .ok (.astore_n 3, 1) := by decide +kernel
theorem dr_cJx4a65c_remove_915e3_18 : decode cJx4a65c_remove_915e3 18 = .ok (.aload_n 0, 1) := by decide +kernel
theorem dr_cJx4a65c_remove_915e3_19 : decode cJx4a65c_remove_915e3 19 = .ok (.aload_n 2, 1) := by decide +kernel
theorem dr_cJx4a65c_remove_915e3_20 : decode cJx4a65c_remove_915e3 20 = .ok (.iload_n 1, 1) := by decide +kernel
theorem dr_cJx4a65c_remove_915e3_21 : decode cJx4a65c_remove_915e3 21 = .ok (.invokevirtual 144, 3) := by decide +kernel
theorem wr_11_26 : (Jvm.Cond.methodLink "java/util/ArrayList" (144 : Nat) ({ cls := "java/util/ArrayList", name := "fastRemove", desc := "([Ljava/lang/Object;I)V" } : Jvm.MethodName)) ∈ gw := gw_11 26 rfl rfl
theorem wr_11_29 : (Jvm.Cond.code ({ cls := "java/util/ArrayList", name := "fastRemove", desc := "([Ljava/lang/Object;I)V" } : Jvm.MethodName) prog_43_method_39_code (4 : Nat) (Option.none : Option Jvm.ClassFile.FieldType)) ∈ gw := gw_11 29 rfl rfl
theorem wr_11_28 : (Jvm.Cond.instanceMethod ({ cls := "java/util/ArrayList", name := "fastRemove", desc := "([Ljava/lang/Object;I)V" } : Jvm.MethodName)) ∈ gw := gw_11 28 rfl rfl
theorem wr_p_103 : Cond.selects "java/util/ArrayList" ⟨"java/util/ArrayList", "fastRemove", "([Ljava/lang/Object;I)V"⟩ ⟨"java/util/ArrayList", "fastRemove", "([Ljava/lang/Object;I)V"⟩ ∈ gw := gw_p _ 103 rfl rfl rfl
theorem dr_cJx4a65c_remove_915e3_24 : decode cJx4a65c_remove_915e3 24 = .ok (.aload_n 3, 1) := by decide +kernel
theorem dr_cJx4a65c_remove_915e3_25 : decode cJx4a65c_remove_915e3 25 = .ok (.areturn, 1) := by decide +kernel
theorem dr_cJxa1e45_init_da8c8_0 : decode cJxa1e45_init_da8c8 0 = .ok (.aload_n 0, 1) := by decide +kernel
theorem dr_cJxa1e45_init_da8c8_1 : decode cJxa1e45_init_da8c8 1 = .ok (.invokespecial 1, 3) := by decide +kernel
theorem wr_7_14 : (Jvm.Cond.methodLink "java/util/AbstractCollection" (1 : Nat) ({ cls := "java/lang/Object", name := "<init>", desc := "()V" } : Jvm.MethodName)) ∈ gw := gw_7 14 rfl rfl
theorem wr_1_51 : (Jvm.Cond.instanceMethod ({ cls := "java/lang/Object", name := "<init>", desc := "()V" } : Jvm.MethodName)) ∈ gw := gw_1 51 rfl rfl
theorem wr_1_52 : (Jvm.Cond.code ({ cls := "java/lang/Object", name := "<init>", desc := "()V" } : Jvm.MethodName) object_method_1_code (1 : Nat) (Option.none : Option Jvm.ClassFile.FieldType)) ∈ gw := gw_1 52 rfl rfl
theorem dr_cJxa1e45_init_da8c8_4 : decode cJxa1e45_init_da8c8 4 = .ok (.return_, 1) := by decide +kernel
theorem dr_cJxc12de_init_da8c8_0 : decode cJxc12de_init_da8c8 0 = .ok (.aload_n 0, 1) := by decide +kernel
theorem dr_cJxc12de_init_da8c8_1 : decode cJxc12de_init_da8c8 1 = .ok (.invokespecial 1, 3) := by decide +kernel
theorem wr_7_11 : (Jvm.Cond.methodLink "java/util/AbstractList" (1 : Nat) ({ cls := "java/util/AbstractCollection", name := "<init>", desc := "()V" } : Jvm.MethodName)) ∈ gw := gw_7 11 rfl rfl
theorem wr_1_16 : (Jvm.Cond.initialized "java/util/AbstractCollection") ∈ gw := gw_1 16 rfl rfl
theorem wr_7_13 : (Jvm.Cond.code ({ cls := "java/util/AbstractCollection", name := "<init>", desc := "()V" } : Jvm.MethodName) prog_41_method_1_code (1 : Nat) (Option.none : Option Jvm.ClassFile.FieldType)) ∈ gw := gw_7 13 rfl rfl
theorem wr_7_12 : (Jvm.Cond.instanceMethod ({ cls := "java/util/AbstractCollection", name := "<init>", desc := "()V" } : Jvm.MethodName)) ∈ gw := gw_7 12 rfl rfl
theorem dr_cJxc12de_init_da8c8_4 : decode cJxc12de_init_da8c8 4 = .ok (.aload_n 0, 1) := by decide +kernel
theorem dr_cJxc12de_init_da8c8_5 : decode cJxc12de_init_da8c8 5 = .ok (.iconst 0, 1) := by decide +kernel
theorem dr_cJxc12de_init_da8c8_6 : decode cJxc12de_init_da8c8 6 = .ok (.putfield 7, 3) := by decide +kernel
theorem wr_7_19 : (Jvm.Cond.fieldLink "java/util/AbstractList" (7 : Nat) "java/util/AbstractList" "modCount" "I") ∈ gw := gw_7 19 rfl rfl
theorem dr_cJxc12de_init_da8c8_9 : decode cJxc12de_init_da8c8 9 = .ok (.return_, 1) := by decide +kernel
abbrev ky_1142_ArrayList_add : gKey := (cJx4a65c_add_7a177, 5, "java/util/ArrayList", none, [], "add", fun _ _ => True)
def pp_1142_ArrayList_add (D : va_G) (I : FieldType → ClassId) (P1119 : List Nat) (F1120 : Nat → va_E) (q1121 : Nat) (q1122 : Nat) (q1123 : Nat) (p1124 : Int32) (p1125 : Int32) (p1126 : Int32) (p1127 : Int32) (p1128 : Int32) (p1129 : Int32) (p1130 : Int32) (p1131 : Int32) (p1132 : Int32) (p1133 : Int32) (f1134 : Nat → Option Nat) (n1135 : Nat) : Option Value → va_W → Nat → Nat → Prop := fun r w dc ds => ∃ (P1221 : List Nat) (F1222 : Nat → va_E) (o1216 : Int32) (o1217 : Int32) (q1218 : Nat) (n1219 : Nat) (f1220 : Nat → Option Nat), r = none ∧ w = va_pl P1221 F1222 ∧ rSub P1119 P1221 ∧ rFr [q1121] P1119 F1120 F1222 ∧ F1222 q1122 = .inr (20, [.int p1127, .int p1128, .int p1129, .int p1130, .int p1131, .int p1132, .int p1133]) ∧ F1222 q1121 = .inr (4, [.int o1216, .ref q1218, .int o1217]) ∧ F1222 q1218 = .inl (I (.object "java/lang/Object"), n1219, .inr (.inr (.inr (.inr f1220)))) ∧ q1218 ∈ P1221 ∧ q1218 ∉ P1119 ∧ dc ≤ 1 ∧ ds ≤ n1135 + n1135 / 2 + 1 ∧ gB o1217 1 16777217 ∧ o1217.toInt = p1126.toInt + 1 ∧ ((∀ j : Nat, (j : Int) < p1124.toInt → f1220 j = f1134 j) ∧ f1220 p1124.toInt.toNat = some q1122 ∧ ∀ j : Nat, p1124.toInt ≤ (j : Int) → (j : Int) < p1126.toInt → f1220 (j + 1) = f1134 j) ∧ rSrcX f1220 f1134 q1122 ∧ ((n1219 : Int) ≤ (n1135 : Int) + (n1135 : Int) / 2 + 1 ∧ (n1135 : Int) + 1 ≤ (n1219 : Int) ∧ (n1135 : Int) + (n1135 : Int) / 2 ≤ (n1219 : Int))
set_option maxRecDepth 100000 in
set_option maxHeartbeats 4000000 in
theorem cp_1142_ArrayList_add (l : Launch) (hl0 : l.stackTraces = false) (D : va_G) (I : FieldType → ClassId) (P1119 : List Nat) (F1120 : Nat → va_E) (q1121 : Nat) (q1122 : Nat) (q1123 : Nat) (p1124 : Int32) (p1125 : Int32) (p1126 : Int32) (p1127 : Int32) (p1128 : Int32) (p1129 : Int32) (p1130 : Int32) (p1131 : Int32) (p1132 : Int32) (p1133 : Int32) (f1134 : Nat → Option Nat) (n1135 : Nat) (hmq1121 : q1121 ∈ P1119) (hmq1122 : q1122 ∈ P1119) (hmq1123 : q1123 ∈ P1119) (heq1121 : F1120 q1121 = .inr (4, [.int p1125, .ref q1123, .int p1126])) (heq1122 : F1120 q1122 = .inr (20, [.int p1127, .int p1128, .int p1129, .int p1130, .int p1131, .int p1132, .int p1133])) (heq1123 : F1120 q1123 = .inl (I (.object "java/lang/Object"), n1135, .inr (.inr (.inr (.inr f1134))))) (bp1124 : gB p1124 0 16777216) (bp1126 : gB p1126 0 16777216) (bp1127 : gB p1127 0 32) (bp1128 : gB p1128 0 1999) (bp1131 : gB p1131 0 1999) (bp1132 : gB p1132 0 1) (bp1133 : gB p1133 0 1) (x1136 : 0 < (n1135 : Int)) (x1137 : (n1135 : Int) ≤ 1000000) (x1138 : p1126.toInt = (n1135 : Int)) (x1139 : p1124.toInt ≤ p1126.toInt) (x1140 : rEl P1119 F1120 f1134) (x1141 : ((n1135 : Int) ≤ 16777216)) : CtA (gV D I) l yJx4a65c_add_7a177 cJx4a65c_add_7a177 5 none 5 105 1 (n1135 + n1135 / 2 + 1) [.ref q1121, .int p1124, .ref q1122] (va_pl P1119 F1120) (pp_1142_ArrayList_add D I P1119 F1120 q1121 q1122 q1123 p1124 p1125 p1126 p1127 p1128 p1129 p1130 p1131 p1132 p1133 f1134 n1135) gNA := by
  refine CtA_ofF hl0 (by decide +kernel) (Nat.le_of_ble_eq_true rfl) ?_
  have bp1125 := gB_any p1125
  have bp1129 := gB_any p1129
  have bp1130 := gB_any p1130
  refine G_aload_n 0 dr_cJx4a65c_add_7a177_0 rfl ?_
  refine G_iload_n 1 dr_cJx4a65c_add_7a177_1 rfl ?_
  refine Gw_callV (As := [.int p1124]) (gV_ok D I) (cp_1067_ArrayList_rangeCheckForAdd l hl0 D I P1119 F1120 q1121 q1123 p1124 p1125 p1126 f1134 n1135 hmq1121 hmq1123 heq1121 heq1123 bp1124 bp1126 (by omega) (by omega)) dr_cJx4a65c_add_7a177_2 ⟨wr_10_211, wr_1_18, wr_10_214, by decide, rfl, (Nat.le_of_ble_eq_true rfl), (Nat.le_of_ble_eq_true rfl)⟩ wr_10_213 wr_p_97 hmq1121 heq1121 rfl (show 0 + 0 ≤ 1 by first | omega | decide) (show 0 + 0 ≤ (n1135 + n1135 / 2 + 1) by first | omega | decide) (Nat.le_of_ble_eq_true rfl) (fun r1146 w1147 dc1143 ds1144 hp1145 => ?_) (fun _ _ _ _ _ z => z.elim)
  obtain ⟨rfl, rfl, hdc, hds⟩ := hp1145
  change G _ _ _ _ _ _ _ _ _ _ _
  refine G_widen (cs' := 0) (sl' := 0) (by omega) (by omega) ?_
  refine G_aload_n 0 dr_cJx4a65c_add_7a177_5 rfl ?_
  refine G_dup dr_cJx4a65c_add_7a177_6 rfl ?_
  refine Gp_getS 0 hmq1121 heq1121 dr_cJx4a65c_add_7a177_7 (gk_Jx4a65c D I) (Nat.le_of_ble_eq_true rfl) wr_7_20 wr_7_21 rfl ?_
  refine G_iconst 1 dr_cJx4a65c_add_7a177_10 (by decide +kernel) ?_
  refine G_iadd dr_cJx4a65c_add_7a177_11 (G_nam fun z1148 hz1148 => ?_)
  have bz1148 : gB z1148 (-2147483648) 2147483647 := gB_any z1148
  refine Gp_putS 0 hmq1121 heq1121 dr_cJx4a65c_add_7a177_12 (gk_Jx4a65c D I) (Nat.le_of_ble_eq_true rfl) wr_7_20 wr_7_21 rfl rfl rfl (Nat.le_of_ble_eq_true rfl) (fun F1149 e1150 n1151 => ?_)
  have he1152 : F1149 q1122 = .inr (20, [.int p1127, .int p1128, .int p1129, .int p1130, .int p1131, .int p1132, .int p1133]) := (n1151 q1122 (rn_oo heq1122 heq1121 (by decide))).trans heq1122
  have he1153 : F1149 q1123 = .inl (I (.object "java/lang/Object"), n1135, .inr (.inr (.inr (.inr f1134)))) := (n1151 q1123 (rn_ao heq1123 heq1121)).trans heq1123
  have he1154 : F1149 q1121 = .inr (4, [.int z1148, .ref q1123, .int p1126]) := e1150
  have hfr1155 : rFr [q1121] P1119 F1120 F1149 := rFr_put (rFr_rf (W := []) (P := P1119) (F := F1120)) n1151
  refine G_aload_n 0 dr_cJx4a65c_add_7a177_15 rfl ?_
  refine Gp_get 2 hmq1121 he1154 dr_cJx4a65c_add_7a177_16 (gk_Jx4a65c D I) (Nat.le_of_ble_eq_true rfl) wr_7_18 rfl ?_
  refine G_dup dr_cJx4a65c_add_7a177_19 rfl ?_
  refine G_istore_n (L' := [(3, .int p1126), (0, .ref q1121), (1, .int p1124), (2, .ref q1122)]) dr_cJx4a65c_add_7a177_20 (Nat.le_of_ble_eq_true rfl) rfl ?_
  refine G_aload_n 1 dr_cJx4a65c_add_7a177_21 rfl ?_
  refine Gp_get 1 hmq1121 he1154 dr_cJx4a65c_add_7a177_22 (gk_Jx4a65c D I) (Nat.le_of_ble_eq_true rfl) wr_7_17 rfl ?_
  refine G_dup dr_cJx4a65c_add_7a177_25 rfl ?_
  refine G_astore (L' := [(4, .ref q1123), (3, .int p1126), (0, .ref q1121), (1, .int p1124), (2, .ref q1122)]) dr_cJx4a65c_add_7a177_26 (Nat.le_of_ble_eq_true rfl) rfl ?_
  refine Gp_alen (Int32.ofNat n1135) 4 hmq1123 he1153 dr_cJx4a65c_add_7a177_28 rfl rfl (G_nam fun z1156 hz1156 => ?_)
  have ez1156 : z1156.toInt = (n1135 : Nat) := gI_ofM hz1156 (by omega)
  have bz1156 : gB z1156 0 16777216 := ⟨by omega, by omega⟩
  refine G_icmp_ne 38 dr_cJx4a65c_add_7a177_29 (by decide +kernel) (fun hc => absurd (show False by have := gC_ne hc; omega) not_false) (fun hc1157 => ?_)
  have r1159 : p1126.toInt = z1156.toInt := gC_eq hc1157
  refine G_aload_n 2 dr_cJx4a65c_add_7a177_32 rfl ?_
  refine Gw_callV (As := []) (gV_ok D I) (cp_326_ArrayList_grow l hl0 D I P1119 F1149 q1121 q1123 z1148 p1126 f1134 n1135 hmq1121 hmq1123 he1154 he1153 bp1126 (by omega) (by omega) (by omega) (rEl_frG (rEl_src x1140 rSrc_rf) (rSub_rf (P := P1119)) hfr1155 (rNg_c (rNg_o heq1121 (by decide) (by decide)) rNg_n)) (by omega)) dr_cJx4a65c_add_7a177_33 ⟨wr_10_11, wr_1_18, wr_10_14, by decide, rfl, (Nat.le_of_ble_eq_true rfl), (Nat.le_of_ble_eq_true rfl)⟩ wr_10_13 wr_p_86 hmq1121 he1154 rfl (show 0 + 1 ≤ 1 by first | omega | decide) (show 0 + (n1135 + n1135 / 2 + 1) ≤ (n1135 + n1135 / 2 + 1) by first | omega | decide) (Nat.le_of_ble_eq_true rfl) (fun r1163 w1164 dc1160 ds1161 hp1162 => ?_) (fun _ _ _ _ _ z => z.elim)
  obtain ⟨P1171, F1172, q1165, n1166, f1167, rfl, rfl, hsb1173, hfr1174, he1175, he1176, hm1177, hq1178, hdc, hds, x1168, x1169, x1170⟩ := hp1162
  have hm1179 : q1121 ∈ P1171 := hsb1173 q1121 hmq1121
  have hm1180 : q1122 ∈ P1171 := hsb1173 q1122 hmq1122
  have hm1181 : q1123 ∈ P1171 := hsb1173 q1123 hmq1123
  have hq1182 : q1165 ∉ P1119 := fun z => hq1178 ((rSub_rf (P := P1119)) q1165 z)
  have hsb1183 : rSub P1119 P1171 := rSub_tr (rSub_rf (P := P1119)) hsb1173
  have he1184 : F1172 q1122 = .inr (20, [.int p1127, .int p1128, .int p1129, .int p1130, .int p1131, .int p1132, .int p1133]) := (hfr1174 q1122 hmq1122 (nm_c (rn_oo he1152 he1154 (by decide)) nm_n)).trans he1152
  have he1185 : F1172 q1123 = .inl (I (.object "java/lang/Object"), n1135, .inr (.inr (.inr (.inr f1134)))) := (hfr1174 q1123 hmq1123 (nm_c (rn_ao he1153 he1154) nm_n)).trans he1153
  have hfr1186 : rFr [q1121] P1119 F1120 F1172 := rFr_call (rSub_rf (P := P1119)) hfr1155 hfr1174 (fun b hb hn => ⟨(nm_c (fun e => hn (e ▸ List.mem_cons_self)) nm_n), (nm_c (fun e => hn (e ▸ List.mem_cons_self)) nm_n)⟩)
  change G _ _ _ _ _ _ _ (.ref q1165 :: _) _ _ _
  refine G_widen (cs' := 1) (sl' := n1135 + n1135 / 2 + 1) (by omega) (by omega) ?_
  refine G_astore (L' := [(4, .ref q1165), (3, .int p1126), (0, .ref q1121), (1, .int p1124), (2, .ref q1122)]) dr_cJx4a65c_add_7a177_36 (Nat.le_of_ble_eq_true rfl) rfl ?_
  refine G_aload 0 dr_cJx4a65c_add_7a177_38 rfl ?_
  refine G_iload_n 3 dr_cJx4a65c_add_7a177_40 rfl ?_
  refine G_aload 0 dr_cJx4a65c_add_7a177_41 rfl ?_
  refine G_iload_n 3 dr_cJx4a65c_add_7a177_43 rfl ?_
  refine G_iconst 1 dr_cJx4a65c_add_7a177_44 (by decide +kernel) ?_
  refine G_iadd dr_cJx4a65c_add_7a177_45 (G_nam fun z1187 hz1187 => ?_)
  have ez1187 : z1187.toInt = p1124.toInt + 1 := by rw [gI_add hz1187 bp1124 (gBl (show Int32.toInt 1 = 1 by decide)) (by decide) (by decide), show Int32.toInt 1 = 1 from by decide]
  have bz1187 : gB z1187 1 16777217 := gB_add (gI_add hz1187 bp1124 (gBl (show Int32.toInt 1 = 1 by decide)) (by decide) (by decide)) bp1124 (gBl (show Int32.toInt 1 = 1 by decide)) (by decide) (by decide)
  refine G_iload_n 1 dr_cJx4a65c_add_7a177_46 rfl ?_
  refine G_iload_n 3 dr_cJx4a65c_add_7a177_47 rfl ?_
  refine G_isub dr_cJx4a65c_add_7a177_48 (G_nam fun z1188 hz1188 => ?_)
  have ez1188 : z1188.toInt = p1126.toInt - p1124.toInt := by rw [gI_sub hz1188 bp1126 bp1124 (by decide) (by decide)]
  have bz1188 : gB z1188 (-16777216) 16777216 := gB_sub (gI_sub hz1188 bp1126 bp1124 (by decide) (by decide)) bp1126 bp1124 (by decide) (by decide)
  refine Gp_copyq 4 hm1177 hm1177 he1176 he1176 dr_cJx4a65c_add_7a177_49 wr_10_228 wr_5_113 wr_5_112 wr_1_34 rfl (by omega) (by omega) (by omega) (by omega) (by omega) (fun j _ w hw => rEl_ob (rEl_frG (rEl_src x1140 (rSrc_tr x1169 rSrc_rf)) hsb1183 hfr1186 (rNg_c (rNg_o heq1121 (by decide) (by decide)) rNg_n)) hw) (Nat.le_of_ble_eq_true rfl) (Nat.le_of_ble_eq_true rfl) (fun F1189 e1190 n1191 => ?_)
  obtain ⟨f1192, hf1192⟩ : ∃ z, z = va_cpy f1167 f1167 p1124.toNatClampNeg z1187.toNatClampNeg z1188.toNatClampNeg := ⟨_, rfl⟩
  rw [← hf1192] at e1190
  have he1193 : F1189 q1122 = .inr (20, [.int p1127, .int p1128, .int p1129, .int p1130, .int p1131, .int p1132, .int p1133]) := (n1191 q1122 (fun h => hq1182 (h ▸ hmq1122))).trans he1184
  have he1194 : F1189 q1123 = .inl (I (.object "java/lang/Object"), n1135, .inr (.inr (.inr (.inr f1134)))) := (n1191 q1123 (fun h => hq1182 (h ▸ hmq1123))).trans he1185
  have he1195 : F1189 q1121 = .inr (4, [.int z1148, .ref q1165, .int p1126]) := (n1191 q1121 (fun h => hq1182 (h ▸ hmq1121))).trans he1175
  have he1196 : F1189 q1165 = .inl (I (.object "java/lang/Object"), n1166, .inr (.inr (.inr (.inr f1192)))) := e1190
  have hfr1197 : rFr [q1121] P1119 F1120 F1189 := rFr_newp hq1182 hfr1186 n1191
  refine G_aload 0 dr_cJx4a65c_add_7a177_52 rfl ?_
  refine G_iload_n 3 dr_cJx4a65c_add_7a177_54 rfl ?_
  refine G_aload_n 4 dr_cJx4a65c_add_7a177_55 rfl ?_
  refine Gp_aast 4 hm1177 he1196 dr_cJx4a65c_add_7a177_56 rfl ⟨hm1180, _, _, _, _, _, he1193, rfl, gr_cast 3 rfl⟩ (gB_inr (by omega) (by omega)) (fun F1198 e1199 n1200 => ?_)
  obtain ⟨f1201, hf1201⟩ : ∃ z, z = va_up f1192 p1124.toNatClampNeg (some q1122) := ⟨_, rfl⟩
  rw [← hf1201] at e1199
  have he1202 : F1198 q1122 = .inr (20, [.int p1127, .int p1128, .int p1129, .int p1130, .int p1131, .int p1132, .int p1133]) := (n1200 q1122 (fun h => hq1182 (h ▸ hmq1122))).trans he1193
  have he1203 : F1198 q1123 = .inl (I (.object "java/lang/Object"), n1135, .inr (.inr (.inr (.inr f1134)))) := (n1200 q1123 (fun h => hq1182 (h ▸ hmq1123))).trans he1194
  have he1204 : F1198 q1121 = .inr (4, [.int z1148, .ref q1165, .int p1126]) := (n1200 q1121 (fun h => hq1182 (h ▸ hmq1121))).trans he1195
  have he1205 : F1198 q1165 = .inl (I (.object "java/lang/Object"), n1166, .inr (.inr (.inr (.inr f1201)))) := e1199
  have hfr1206 : rFr [q1121] P1119 F1120 F1198 := rFr_newp hq1182 hfr1197 n1200
  refine G_aload_n 2 dr_cJx4a65c_add_7a177_57 rfl ?_
  refine G_iload_n 1 dr_cJx4a65c_add_7a177_58 rfl ?_
  refine G_iconst 1 dr_cJx4a65c_add_7a177_59 (by decide +kernel) ?_
  refine G_iadd dr_cJx4a65c_add_7a177_60 (G_nam fun z1207 hz1207 => ?_)
  have ez1207 : z1207.toInt = p1126.toInt + 1 := by rw [gI_add hz1207 bp1126 (gBl (show Int32.toInt 1 = 1 by decide)) (by decide) (by decide), show Int32.toInt 1 = 1 from by decide]
  have bz1207 : gB z1207 1 16777217 := gB_add (gI_add hz1207 bp1126 (gBl (show Int32.toInt 1 = 1 by decide)) (by decide) (by decide)) bp1126 (gBl (show Int32.toInt 1 = 1 by decide)) (by decide) (by decide)
  refine Gp_put 2 hm1179 he1204 dr_cJx4a65c_add_7a177_61 (gk_Jx4a65c D I) (Nat.le_of_ble_eq_true rfl) wr_7_18 rfl rfl rfl (Nat.le_of_ble_eq_true rfl) (fun F1208 e1209 n1210 => ?_)
  have he1211 : F1208 q1122 = .inr (20, [.int p1127, .int p1128, .int p1129, .int p1130, .int p1131, .int p1132, .int p1133]) := (n1210 q1122 (rn_oo he1202 he1204 (by decide))).trans he1202
  have he1212 : F1208 q1123 = .inl (I (.object "java/lang/Object"), n1135, .inr (.inr (.inr (.inr f1134)))) := (n1210 q1123 (rn_ao he1203 he1204)).trans he1203
  have he1213 : F1208 q1165 = .inl (I (.object "java/lang/Object"), n1166, .inr (.inr (.inr (.inr f1201)))) := (n1210 q1165 (fun h => hq1182 (h ▸ hmq1121))).trans he1205
  have he1214 : F1208 q1121 = .inr (4, [.int z1148, .ref q1165, .int z1207]) := e1209
  have hfr1215 : rFr [q1121] P1119 F1120 F1208 := rFr_put' List.mem_cons_self hfr1206 n1210
  exact G_vretA dr_cJx4a65c_add_7a177_64 rfl (Nat.le_of_ble_eq_true rfl) (show n1135 + n1135 / 2 + 1 ≤ (n1135 + n1135 / 2 + 1) by omega) ⟨P1171, F1208, z1148, z1207, q1165, n1166, f1201, rfl, rfl, hsb1183, hfr1215, he1211, he1214, he1213, hm1177, hq1182, (Nat.le_of_ble_eq_true rfl), (by omega), bz1207, (by omega), (rI_ins (m := _) (fun j hj => x1168 j (by omega)) hf1192 hf1201 (by omega) (by omega) (by omega) (by omega)), (rSrcX_up hf1201 (rSrc_cpy hf1192 (rSrc_tr x1169 rSrc_rf) (rSrc_tr x1169 rSrc_rf))), (by omega)⟩
abbrev ky_1247_ArrayList_rangeCheckForAdd : gKey := (cJx4a65c_rangeCheckForAdd_d00df, 2, "java/util/ArrayList", none, [], "rangeCheckForAdd", fun _ _ => True)
def pp_1247_ArrayList_rangeCheckForAdd (D : va_G) (I : FieldType → ClassId) (P1240 : List Nat) (F1241 : Nat → va_E) (q1242 : Nat) (p1243 : Int32) (p1244 : Int32) (p1245 : Int32) : Option Value → va_W → Nat → Nat → Prop := fun r w dc ds => r = none ∧ w = va_pl P1240 F1241 ∧ dc ≤ 0 ∧ ds ≤ 0
set_option maxRecDepth 100000 in
set_option maxHeartbeats 4000000 in
theorem cp_1247_ArrayList_rangeCheckForAdd (l : Launch) (hl0 : l.stackTraces = false) (D : va_G) (I : FieldType → ClassId) (P1240 : List Nat) (F1241 : Nat → va_E) (q1242 : Nat) (p1243 : Int32) (p1244 : Int32) (p1245 : Int32) (hmq1242 : q1242 ∈ P1240) (heq1242 : F1241 q1242 = .inr (4, [.int p1244, .ref (D.2 1002 1), .int p1245])) (bp1243 : gB p1243 0 16777216) (bp1245 : gB p1245 0 16777216) (x1246 : p1243.toInt ≤ p1245.toInt) : CtA (gV D I) l yJx4a65c_rangeCheckForAdd_d00df cJx4a65c_rangeCheckForAdd_d00df 2 none 0 0 0 0 [.ref q1242, .int p1243] (va_pl P1240 F1241) (pp_1247_ArrayList_rangeCheckForAdd D I P1240 F1241 q1242 p1243 p1244 p1245) gNA := by
  refine CtA_ofF hl0 (by decide +kernel) (Nat.le_of_ble_eq_true rfl) ?_
  have bp1244 := gB_any p1244
  refine G_iload_n 1 dr_cJx4a65c_rangeCheckForAdd_d00df_0 rfl ?_
  refine G_aload_n 0 dr_cJx4a65c_rangeCheckForAdd_d00df_1 rfl ?_
  refine Gp_get 2 hmq1242 heq1242 dr_cJx4a65c_rangeCheckForAdd_d00df_2 (gk_Jx4a65c D I) (Nat.le_of_ble_eq_true rfl) wr_7_18 rfl ?_
  refine G_icmp_gt 12 dr_cJx4a65c_rangeCheckForAdd_d00df_5 (by decide +kernel) (fun hc => absurd (show False by have := gC_lt hc; omega) not_false) (fun hc1248 => ?_)
  have r1250 : p1243.toInt ≤ p1245.toInt := gC_nlt hc1248
  refine G_iload_n 1 dr_cJx4a65c_rangeCheckForAdd_d00df_8 rfl ?_
  refine G_if_ge 25 dr_cJx4a65c_rangeCheckForAdd_d00df_9 (by decide +kernel) (fun _ => ?_) (fun hc => absurd (show False by have := gj_nleL hc (show Int32.toInt 0 = 0 by decide); omega) not_false)
  exact G_vretA dr_cJx4a65c_rangeCheckForAdd_d00df_25 rfl (Nat.le_of_ble_eq_true rfl) (Nat.le_of_ble_eq_true rfl) ⟨rfl, rfl, (Nat.le_of_ble_eq_true rfl), (Nat.le_of_ble_eq_true rfl)⟩
abbrev ky_1239_ArrayList_add : gKey := (cJx4a65c_add_7a177, 5, "java/util/ArrayList", none, [], "add", fun _ _ => True)
def pp_1239_ArrayList_add (D : va_G) (I : FieldType → ClassId) (P1223 : List Nat) (F1224 : Nat → va_E) (q1225 : Nat) (q1226 : Nat) (p1227 : Int32) (p1228 : Int32) (p1229 : Int32) (p1230 : Int32) (p1231 : Int32) (p1232 : Int32) (p1233 : Int32) (p1234 : Int32) (p1235 : Int32) (p1236 : Int32) : Option Value → va_W → Nat → Nat → Prop := fun r w dc ds => ∃ (P1319 : List Nat) (F1320 : Nat → va_E) (o1314 : Int32) (o1315 : Int32) (q1316 : Nat) (n1317 : Nat) (f1318 : Nat → Option Nat), r = none ∧ w = va_pl P1319 F1320 ∧ rSub P1223 P1319 ∧ rFr [q1225] P1223 F1224 F1320 ∧ F1320 q1226 = .inr (20, [.int p1230, .int p1231, .int p1232, .int p1233, .int p1234, .int p1235, .int p1236]) ∧ F1320 q1225 = .inr (4, [.int o1314, .ref q1316, .int o1315]) ∧ F1320 q1316 = .inl (I (.object "java/lang/Object"), n1317, .inr (.inr (.inr (.inr f1318)))) ∧ q1316 ∈ P1319 ∧ q1316 ∉ P1223 ∧ dc ≤ 1 ∧ ds ≤ 10 ∧ gB o1315 1 1 ∧ o1315.toInt = p1229.toInt + 1 ∧ f1318 p1227.toInt.toNat = some q1226 ∧ (∀ j w, f1318 j = some w → w = q1226) ∧ (n1317 : Int) = 10
set_option maxRecDepth 100000 in
set_option maxHeartbeats 4000000 in
theorem cp_1239_ArrayList_add (l : Launch) (hl0 : l.stackTraces = false) (D : va_G) (I : FieldType → ClassId) (P1223 : List Nat) (F1224 : Nat → va_E) (q1225 : Nat) (q1226 : Nat) (p1227 : Int32) (p1228 : Int32) (p1229 : Int32) (p1230 : Int32) (p1231 : Int32) (p1232 : Int32) (p1233 : Int32) (p1234 : Int32) (p1235 : Int32) (p1236 : Int32) (hmq1225 : q1225 ∈ P1223) (hmq1226 : q1226 ∈ P1223) (heq1225 : F1224 q1225 = .inr (4, [.int p1228, .ref (D.2 1002 1), .int p1229])) (heq1226 : F1224 q1226 = .inr (20, [.int p1230, .int p1231, .int p1232, .int p1233, .int p1234, .int p1235, .int p1236])) (bp1227 : gB p1227 0 16777216) (bp1229 : gB p1229 0 16777216) (bp1230 : gB p1230 0 32) (bp1231 : gB p1231 0 1999) (bp1234 : gB p1234 0 1999) (bp1235 : gB p1235 0 1) (bp1236 : gB p1236 0 1) (x1237 : p1229.toInt = 0) (x1238 : p1227.toInt ≤ p1229.toInt) : CtA (gV D I) l yJx4a65c_add_7a177 cJx4a65c_add_7a177 5 none 3 57 1 10 [.ref q1225, .int p1227, .ref q1226] (va_pl P1223 F1224) (pp_1239_ArrayList_add D I P1223 F1224 q1225 q1226 p1227 p1228 p1229 p1230 p1231 p1232 p1233 p1234 p1235 p1236) gNA := by
  refine CtA_ofF hl0 (by decide +kernel) (Nat.le_of_ble_eq_true rfl) ?_
  have bp1228 := gB_any p1228
  have bp1232 := gB_any p1232
  have bp1233 := gB_any p1233
  refine G_aload_n 0 dr_cJx4a65c_add_7a177_0 rfl ?_
  refine G_iload_n 1 dr_cJx4a65c_add_7a177_1 rfl ?_
  refine Gw_callV (As := [.int p1227]) (gV_ok D I) (cp_1247_ArrayList_rangeCheckForAdd l hl0 D I P1223 F1224 q1225 p1227 p1228 p1229 hmq1225 heq1225 bp1227 bp1229 (by omega)) dr_cJx4a65c_add_7a177_2 ⟨wr_10_211, wr_1_18, wr_10_214, by decide, rfl, (Nat.le_of_ble_eq_true rfl), (Nat.le_of_ble_eq_true rfl)⟩ wr_10_213 wr_p_97 hmq1225 heq1225 rfl (show 0 + 0 ≤ 1 by first | omega | decide) (show 0 + 0 ≤ 10 by first | omega | decide) (Nat.le_of_ble_eq_true rfl) (fun r1254 w1255 dc1251 ds1252 hp1253 => ?_) (fun _ _ _ _ _ z => z.elim)
  obtain ⟨rfl, rfl, hdc, hds⟩ := hp1253
  change G _ _ _ _ _ _ _ _ _ _ _
  refine G_widen (cs' := 0) (sl' := 0) (by omega) (by omega) ?_
  refine G_aload_n 0 dr_cJx4a65c_add_7a177_5 rfl ?_
  refine G_dup dr_cJx4a65c_add_7a177_6 rfl ?_
  refine Gp_getS 0 hmq1225 heq1225 dr_cJx4a65c_add_7a177_7 (gk_Jx4a65c D I) (Nat.le_of_ble_eq_true rfl) wr_7_20 wr_7_21 rfl ?_
  refine G_iconst 1 dr_cJx4a65c_add_7a177_10 (by decide +kernel) ?_
  refine G_iadd dr_cJx4a65c_add_7a177_11 (G_nam fun z1256 hz1256 => ?_)
  have bz1256 : gB z1256 (-2147483648) 2147483647 := gB_any z1256
  refine Gp_putS 0 hmq1225 heq1225 dr_cJx4a65c_add_7a177_12 (gk_Jx4a65c D I) (Nat.le_of_ble_eq_true rfl) wr_7_20 wr_7_21 rfl rfl rfl (Nat.le_of_ble_eq_true rfl) (fun F1257 e1258 n1259 => ?_)
  have he1260 : F1257 q1226 = .inr (20, [.int p1230, .int p1231, .int p1232, .int p1233, .int p1234, .int p1235, .int p1236]) := (n1259 q1226 (rn_oo heq1226 heq1225 (by decide))).trans heq1226
  have he1261 : F1257 q1225 = .inr (4, [.int z1256, .ref (D.2 1002 1), .int p1229]) := e1258
  have hfr1262 : rFr [q1225] P1223 F1224 F1257 := rFr_put (rFr_rf (W := []) (P := P1223) (F := F1224)) n1259
  refine G_aload_n 0 dr_cJx4a65c_add_7a177_15 rfl ?_
  refine Gp_get 2 hmq1225 he1261 dr_cJx4a65c_add_7a177_16 (gk_Jx4a65c D I) (Nat.le_of_ble_eq_true rfl) wr_7_18 rfl ?_
  refine G_dup dr_cJx4a65c_add_7a177_19 rfl ?_
  refine G_istore_n (L' := [(3, .int p1229), (0, .ref q1225), (1, .int p1227), (2, .ref q1226)]) dr_cJx4a65c_add_7a177_20 (Nat.le_of_ble_eq_true rfl) rfl ?_
  refine G_aload_n 1 dr_cJx4a65c_add_7a177_21 rfl ?_
  refine Gp_get 1 hmq1225 he1261 dr_cJx4a65c_add_7a177_22 (gk_Jx4a65c D I) (Nat.le_of_ble_eq_true rfl) wr_7_17 rfl ?_
  refine G_dup dr_cJx4a65c_add_7a177_25 rfl ?_
  refine G_astore (L' := [(4, .ref (D.2 1002 1)), (3, .int p1229), (0, .ref q1225), (1, .int p1227), (2, .ref q1226)]) dr_cJx4a65c_add_7a177_26 (Nat.le_of_ble_eq_true rfl) rfl ?_
  refine G_klen dr_cJx4a65c_add_7a177_28 gr_dt ?_
  refine G_icmp_ne 38 dr_cJx4a65c_add_7a177_29 (by decide +kernel) (fun hc => absurd (show False by have := gj_neq hc (show Int32.toInt 0 = 0 by decide); omega) not_false) (fun hc1263 => ?_)
  have r1265 : p1229.toInt = 0 := gj_eq hc1263 (show Int32.toInt 0 = 0 by decide)
  have bp1229' : gB p1229 0 0 := ⟨by omega, by omega⟩
  refine G_aload_n 2 dr_cJx4a65c_add_7a177_32 rfl ?_
  refine Gw_callV (As := []) (gV_ok D I) (cp_780_ArrayList_grow l hl0 D I P1223 F1257 q1225 z1256 p1229 hmq1225 he1261 (gB_w bp1229' (by decide) (by decide)) (by omega)) dr_cJx4a65c_add_7a177_33 ⟨wr_10_11, wr_1_18, wr_10_14, by decide, rfl, (Nat.le_of_ble_eq_true rfl), (Nat.le_of_ble_eq_true rfl)⟩ wr_10_13 wr_p_86 hmq1225 he1261 rfl (show 0 + 1 ≤ 1 by first | omega | decide) (show 0 + 10 ≤ 10 by first | omega | decide) (Nat.le_of_ble_eq_true rfl) (fun r1269 w1270 dc1266 ds1267 hp1268 => ?_) (fun _ _ _ _ _ z => z.elim)
  obtain ⟨P1274, F1275, q1271, n1272, rfl, rfl, hsb1276, hfr1277, he1278, he1279, hm1280, hq1281, hdc, hds, x1273⟩ := hp1268
  have hm1282 : q1225 ∈ P1274 := hsb1276 q1225 hmq1225
  have hm1283 : q1226 ∈ P1274 := hsb1276 q1226 hmq1226
  have hq1284 : q1271 ∉ P1223 := fun z => hq1281 ((rSub_rf (P := P1223)) q1271 z)
  have hsb1285 : rSub P1223 P1274 := rSub_tr (rSub_rf (P := P1223)) hsb1276
  have he1286 : F1275 q1226 = .inr (20, [.int p1230, .int p1231, .int p1232, .int p1233, .int p1234, .int p1235, .int p1236]) := (hfr1277 q1226 hmq1226 (nm_c (rn_oo he1260 he1261 (by decide)) nm_n)).trans he1260
  have hfr1287 : rFr [q1225] P1223 F1224 F1275 := rFr_call (rSub_rf (P := P1223)) hfr1262 hfr1277 (fun b hb hn => ⟨(nm_c (fun e => hn (e ▸ List.mem_cons_self)) nm_n), (nm_c (fun e => hn (e ▸ List.mem_cons_self)) nm_n)⟩)
  change G _ _ _ _ _ _ _ (.ref q1271 :: _) _ _ _
  refine G_widen (cs' := 1) (sl' := 10) (by omega) (by omega) ?_
  refine G_astore (L' := [(4, .ref q1271), (3, .int p1229), (0, .ref q1225), (1, .int p1227), (2, .ref q1226)]) dr_cJx4a65c_add_7a177_36 (Nat.le_of_ble_eq_true rfl) rfl ?_
  refine G_aload 0 dr_cJx4a65c_add_7a177_38 rfl ?_
  refine G_iload_n 3 dr_cJx4a65c_add_7a177_40 rfl ?_
  refine G_aload 0 dr_cJx4a65c_add_7a177_41 rfl ?_
  refine G_iload_n 3 dr_cJx4a65c_add_7a177_43 rfl ?_
  refine G_iconst 1 dr_cJx4a65c_add_7a177_44 (by decide +kernel) ?_
  refine G_iadd dr_cJx4a65c_add_7a177_45 (G_nam fun z1288 hz1288 => ?_)
  have ez1288 : z1288.toInt = p1227.toInt + 1 := by rw [gI_add hz1288 bp1227 (gBl (show Int32.toInt 1 = 1 by decide)) (by decide) (by decide), show Int32.toInt 1 = 1 from by decide]
  have bz1288 : gB z1288 1 16777217 := gB_add (gI_add hz1288 bp1227 (gBl (show Int32.toInt 1 = 1 by decide)) (by decide) (by decide)) bp1227 (gBl (show Int32.toInt 1 = 1 by decide)) (by decide) (by decide)
  refine G_iload_n 1 dr_cJx4a65c_add_7a177_46 rfl ?_
  refine G_iload_n 3 dr_cJx4a65c_add_7a177_47 rfl ?_
  refine G_isub dr_cJx4a65c_add_7a177_48 (G_nam fun z1289 hz1289 => ?_)
  have ez1289 : z1289.toInt = p1229.toInt - p1227.toInt := by rw [gI_sub hz1289 bp1229' bp1227 (by decide) (by decide)]
  have bz1289 : gB z1289 (-16777216) 0 := gB_sub (gI_sub hz1289 bp1229' bp1227 (by decide) (by decide)) bp1229' bp1227 (by decide) (by decide)
  refine Gp_copyq 4 hm1280 hm1280 he1279 he1279 dr_cJx4a65c_add_7a177_49 wr_10_228 wr_5_113 wr_5_112 wr_1_34 rfl (by omega) (by omega) (by omega) (by omega) (by omega) (fun j _ w hw => by cases hw) (Nat.le_of_ble_eq_true rfl) (Nat.le_of_ble_eq_true rfl) (fun F1290 e1291 n1292 => ?_)
  obtain ⟨f1293, hf1293⟩ : ∃ z, z = va_cpy (fun _ => none) (fun _ => none) p1227.toNatClampNeg z1288.toNatClampNeg z1289.toNatClampNeg := ⟨_, rfl⟩
  rw [← hf1293] at e1291
  have he1294 : F1290 q1226 = .inr (20, [.int p1230, .int p1231, .int p1232, .int p1233, .int p1234, .int p1235, .int p1236]) := (n1292 q1226 (fun h => hq1284 (h ▸ hmq1226))).trans he1286
  have he1295 : F1290 q1225 = .inr (4, [.int z1256, .ref q1271, .int p1229]) := (n1292 q1225 (fun h => hq1284 (h ▸ hmq1225))).trans he1278
  have he1296 : F1290 q1271 = .inl (I (.object "java/lang/Object"), n1272, .inr (.inr (.inr (.inr f1293)))) := e1291
  have hfr1297 : rFr [q1225] P1223 F1224 F1290 := rFr_newp hq1284 hfr1287 n1292
  refine G_aload 0 dr_cJx4a65c_add_7a177_52 rfl ?_
  refine G_iload_n 3 dr_cJx4a65c_add_7a177_54 rfl ?_
  refine G_aload_n 4 dr_cJx4a65c_add_7a177_55 rfl ?_
  refine Gp_aast 4 hm1280 he1296 dr_cJx4a65c_add_7a177_56 rfl ⟨hm1283, _, _, _, _, _, he1294, rfl, gr_cast 3 rfl⟩ (gB_inr (by omega) (by omega)) (fun F1298 e1299 n1300 => ?_)
  obtain ⟨f1301, hf1301⟩ : ∃ z, z = va_up f1293 p1227.toNatClampNeg (some q1226) := ⟨_, rfl⟩
  rw [← hf1301] at e1299
  have he1302 : F1298 q1226 = .inr (20, [.int p1230, .int p1231, .int p1232, .int p1233, .int p1234, .int p1235, .int p1236]) := (n1300 q1226 (fun h => hq1284 (h ▸ hmq1226))).trans he1294
  have he1303 : F1298 q1225 = .inr (4, [.int z1256, .ref q1271, .int p1229]) := (n1300 q1225 (fun h => hq1284 (h ▸ hmq1225))).trans he1295
  have he1304 : F1298 q1271 = .inl (I (.object "java/lang/Object"), n1272, .inr (.inr (.inr (.inr f1301)))) := e1299
  have hfr1305 : rFr [q1225] P1223 F1224 F1298 := rFr_newp hq1284 hfr1297 n1300
  refine G_aload_n 2 dr_cJx4a65c_add_7a177_57 rfl ?_
  refine G_iload_n 1 dr_cJx4a65c_add_7a177_58 rfl ?_
  refine G_iconst 1 dr_cJx4a65c_add_7a177_59 (by decide +kernel) ?_
  refine G_iadd dr_cJx4a65c_add_7a177_60 (G_nam fun z1306 hz1306 => ?_)
  have ez1306 : z1306.toInt = p1229.toInt + 1 := by rw [gI_add hz1306 bp1229' (gBl (show Int32.toInt 1 = 1 by decide)) (by decide) (by decide), show Int32.toInt 1 = 1 from by decide]
  have bz1306 : gB z1306 1 1 := gB_add (gI_add hz1306 bp1229' (gBl (show Int32.toInt 1 = 1 by decide)) (by decide) (by decide)) bp1229' (gBl (show Int32.toInt 1 = 1 by decide)) (by decide) (by decide)
  refine Gp_put 2 hm1282 he1303 dr_cJx4a65c_add_7a177_61 (gk_Jx4a65c D I) (Nat.le_of_ble_eq_true rfl) wr_7_18 rfl rfl rfl (Nat.le_of_ble_eq_true rfl) (fun F1307 e1308 n1309 => ?_)
  have he1310 : F1307 q1226 = .inr (20, [.int p1230, .int p1231, .int p1232, .int p1233, .int p1234, .int p1235, .int p1236]) := (n1309 q1226 (rn_oo he1302 he1303 (by decide))).trans he1302
  have he1311 : F1307 q1271 = .inl (I (.object "java/lang/Object"), n1272, .inr (.inr (.inr (.inr f1301)))) := (n1309 q1271 (fun h => hq1284 (h ▸ hmq1225))).trans he1304
  have he1312 : F1307 q1225 = .inr (4, [.int z1256, .ref q1271, .int z1306]) := e1308
  have hfr1313 : rFr [q1225] P1223 F1224 F1307 := rFr_put' List.mem_cons_self hfr1305 n1309
  exact G_vretA dr_cJx4a65c_add_7a177_64 rfl (Nat.le_of_ble_eq_true rfl) (Nat.le_of_ble_eq_true rfl) ⟨P1274, F1307, z1256, z1306, q1271, n1272, f1301, rfl, rfl, hsb1285, hfr1313, he1310, he1312, he1311, hm1280, hq1284, (Nat.le_of_ble_eq_true rfl), (Nat.le_of_ble_eq_true rfl), bz1306, (by omega), (rI_ins (f := fun _ => none) (m := 0) (fun _ _ => rfl) hf1293 hf1301 (by omega) (by omega) (by omega) (by omega)).2.1, (rX_none (rSrcX_up hf1301 (rSrc_cpy hf1293 rSrc_none rSrc_none))), (by omega)⟩
abbrev ky_1332_ArrayList_clear : gKey := (cJx4a65c_clear_da8c8, 4, "java/util/ArrayList", none, [], "clear", fun _ _ => True)
def pp_1332_ArrayList_clear (D : va_G) (I : FieldType → ClassId) (P1321 : List Nat) (F1322 : Nat → va_E) (q1323 : Nat) (q1324 : Nat) (p1325 : Int32) (p1326 : Int32) (f1327 : Nat → Option Nat) (n1328 : Nat) : Option Value → va_W → Nat → Nat → Prop := fun r w dc ds => ∃ (F1464 : Nat → va_E) (o1461 : Int32) (f1462 : Nat → Option Nat), r = none ∧ w = va_pl P1321 F1464 ∧ rFr [q1323, q1324] P1321 F1322 F1464 ∧ F1464 q1323 = .inr (4, [.int o1461, .ref q1324, .int 0]) ∧ F1464 q1324 = .inl (I (.object "java/lang/Object"), n1328, .inr (.inr (.inr (.inr f1462)))) ∧ dc ≤ 0 ∧ ds ≤ 0 ∧ rSrc f1462 f1327
set_option maxRecDepth 100000 in
set_option maxHeartbeats 4000000 in
theorem cp_1332_ArrayList_clear (l : Launch) (hl0 : l.stackTraces = false) (D : va_G) (I : FieldType → ClassId) (P1321 : List Nat) (F1322 : Nat → va_E) (q1323 : Nat) (q1324 : Nat) (p1325 : Int32) (p1326 : Int32) (f1327 : Nat → Option Nat) (n1328 : Nat) (hmq1323 : q1323 ∈ P1321) (hmq1324 : q1324 ∈ P1321) (heq1323 : F1322 q1323 = .inr (4, [.int p1325, .ref q1324, .int p1326])) (heq1324 : F1322 q1324 = .inl (I (.object "java/lang/Object"), n1328, .inr (.inr (.inr (.inr f1327))))) (bp1326 : gB p1326 0 16777216) (x1329 : p1326.toInt ≤ (n1328 : Int)) (x1330 : rEl P1321 F1322 f1327) (x1331 : ((n1328 : Int) ≤ 16777216)) : CtA (gV D I) l yJx4a65c_clear_da8c8 cJx4a65c_clear_da8c8 4 none 0 0 0 0 [.ref q1323] (va_pl P1321 F1322) (pp_1332_ArrayList_clear D I P1321 F1322 q1323 q1324 p1325 p1326 f1327 n1328) gNA := by
  refine CtA_ofF hl0 (by decide +kernel) (Nat.le_of_ble_eq_true rfl) ?_
  have bp1325 := gB_any p1325
  refine G_aload_n 0 dr_cJx4a65c_clear_da8c8_0 rfl ?_
  refine G_dup dr_cJx4a65c_clear_da8c8_1 rfl ?_
  refine Gp_getS 0 hmq1323 heq1323 dr_cJx4a65c_clear_da8c8_2 (gk_Jx4a65c D I) (Nat.le_of_ble_eq_true rfl) wr_7_20 wr_7_21 rfl ?_
  refine G_iconst 1 dr_cJx4a65c_clear_da8c8_5 (by decide +kernel) ?_
  refine G_iadd dr_cJx4a65c_clear_da8c8_6 (G_nam fun z1333 hz1333 => ?_)
  have bz1333 : gB z1333 (-2147483648) 2147483647 := gB_any z1333
  refine Gp_putS 0 hmq1323 heq1323 dr_cJx4a65c_clear_da8c8_7 (gk_Jx4a65c D I) (Nat.le_of_ble_eq_true rfl) wr_7_20 wr_7_21 rfl rfl rfl (Nat.le_of_ble_eq_true rfl) (fun F1334 e1335 n1336 => ?_)
  have he1337 : F1334 q1324 = .inl (I (.object "java/lang/Object"), n1328, .inr (.inr (.inr (.inr f1327)))) := (n1336 q1324 (rn_ao heq1324 heq1323)).trans heq1324
  have he1338 : F1334 q1323 = .inr (4, [.int z1333, .ref q1324, .int p1326]) := e1335
  have hfr1339 : rFr [q1323] P1321 F1322 F1334 := rFr_put (rFr_rf (W := []) (P := P1321) (F := F1322)) n1336
  refine G_aload_n 0 dr_cJx4a65c_clear_da8c8_10 rfl ?_
  refine Gp_get 1 hmq1323 he1338 dr_cJx4a65c_clear_da8c8_11 (gk_Jx4a65c D I) (Nat.le_of_ble_eq_true rfl) wr_7_17 rfl ?_
  refine G_astore_n (L' := [(1, .ref q1324), (0, .ref q1323)]) dr_cJx4a65c_clear_da8c8_14 (Nat.le_of_ble_eq_true rfl) rfl ?_
  refine G_aload_n 1 dr_cJx4a65c_clear_da8c8_15 rfl ?_
  refine Gp_get 2 hmq1323 he1338 dr_cJx4a65c_clear_da8c8_16 (gk_Jx4a65c D I) (Nat.le_of_ble_eq_true rfl) wr_7_18 rfl ?_
  refine G_istore_n (L' := [(2, .int p1326), (1, .ref q1324), (0, .ref q1323)]) dr_cJx4a65c_clear_da8c8_19 (Nat.le_of_ble_eq_true rfl) rfl ?_
  refine G_aload_n 2 dr_cJx4a65c_clear_da8c8_20 rfl ?_
  refine G_iconst 0 dr_cJx4a65c_clear_da8c8_21 (by decide +kernel) ?_
  refine G_dup_x1 dr_cJx4a65c_clear_da8c8_22 rfl rfl ?_
  refine Gp_put 2 hmq1323 he1338 dr_cJx4a65c_clear_da8c8_23 (gk_Jx4a65c D I) (Nat.le_of_ble_eq_true rfl) wr_7_18 rfl rfl rfl (Nat.le_of_ble_eq_true rfl) (fun F1340 e1341 n1342 => ?_)
  have he1343 : F1340 q1324 = .inl (I (.object "java/lang/Object"), n1328, .inr (.inr (.inr (.inr f1327)))) := (n1342 q1324 (rn_ao he1337 he1338)).trans he1337
  have he1344 : F1340 q1323 = .inr (4, [.int z1333, .ref q1324, .int 0]) := e1341
  have hfr1345 : rFr [q1323] P1321 F1322 F1340 := rFr_put' List.mem_cons_self hfr1339 n1342
  refine G_istore_n (L' := [(3, .int 0), (2, .int p1326), (1, .ref q1324), (0, .ref q1323)]) dr_cJx4a65c_clear_da8c8_26 (Nat.le_of_ble_eq_true rfl) rfl ?_
  have hlp27_1449 : ∀ (n27_1449 : Nat) (F1443 : Nat → va_E) (g1441 : Int32) (f1442 : Nat → Option Nat), gB g1441 0 16777216 → rFr [q1323, q1324] P1321 F1322 F1443 → F1443 q1323 = .inr (4, [.int z1333, .ref q1324, .int 0]) → F1443 q1324 = .inl (I (.object "java/lang/Object"), n1328, .inr (.inr (.inr (.inr f1442)))) → rSrc f1442 f1327 → p1326.toInt ≤ (n1328 : Int) → (n1328 : Int) ≤ 16777216 → ((16777217 : Int) - g1441.toInt).toNat < n27_1449 → G (gV D I) l (gRm 0 0 0 0) (gMA (gV D I) (pp_1332_ArrayList_clear D I P1321 F1322 q1323 q1324 p1325 p1326 f1327 n1328) gNA 0 0) ky_1332_ArrayList_clear 27 [(3, .int g1441), (2, .int p1326), (1, .ref q1324), (0, .ref q1323)] [] (va_pl P1321 F1443) 0 0 := by
    intro n27_1449
    induction n27_1449 with
    | zero => intro F1443 g1441 f1442 bg1441 hfr1446 he1444 he1445 x1447 x1448 x1449 hm27_1449; exact absurd hm27_1449 (Nat.not_lt_zero _)
    | succ n27_1449 ih27_1449 =>
      intro F1443 g1441 f1442 bg1441 hfr1446 he1444 he1445 x1447 x1448 x1449 hm27_1449
      refine G_iload_n 0 dr_cJx4a65c_clear_da8c8_27 rfl ?_
      refine G_iload_n 1 dr_cJx4a65c_clear_da8c8_28 rfl ?_
      refine G_icmp_ge 42 dr_cJx4a65c_clear_da8c8_29 (by decide +kernel) (fun hc1450 => ?_) (fun hc1450 => ?_)
      · have r1451 : p1326.toInt ≤ g1441.toInt := gC_le hc1450
        exact G_vretA dr_cJx4a65c_clear_da8c8_42 rfl (Nat.le_of_ble_eq_true rfl) (Nat.le_of_ble_eq_true rfl) ⟨F1443, z1333, f1442, rfl, rfl, hfr1446, he1444, he1445, (Nat.le_of_ble_eq_true rfl), (Nat.le_of_ble_eq_true rfl), x1447⟩
      · have r1452 : g1441.toInt < p1326.toInt := gC_nle hc1450
        have bg1441' : gB g1441 0 16777215 := ⟨by omega, by omega⟩
        have bp1326' : gB p1326 1 16777216 := ⟨by omega, by omega⟩
        refine G_aload_n 2 dr_cJx4a65c_clear_da8c8_32 rfl ?_
        refine G_iload_n 0 dr_cJx4a65c_clear_da8c8_33 rfl ?_
        refine G_null dr_cJx4a65c_clear_da8c8_34 ?_
        refine Gp_aastN 4 hmq1324 he1445 dr_cJx4a65c_clear_da8c8_35 rfl (gB_inr (by omega) (by omega)) (fun F1453 e1454 n1455 => ?_)
        obtain ⟨f1456, hf1456⟩ : ∃ z, z = va_up f1442 g1441.toNatClampNeg none := ⟨_, rfl⟩
        rw [← hf1456] at e1454
        have he1457 : F1453 q1323 = .inr (4, [.int z1333, .ref q1324, .int 0]) := (n1455 q1323 (rn_oa he1444 he1445)).trans he1444
        have he1458 : F1453 q1324 = .inl (I (.object "java/lang/Object"), n1328, .inr (.inr (.inr (.inr f1456)))) := e1454
        have hfr1459 : rFr [q1323, q1324] P1321 F1322 F1453 := rFr_put' (List.mem_cons_of_mem _ List.mem_cons_self) hfr1446 n1455
        obtain ⟨z1460, hz1460⟩ : ∃ z : Int32, z = g1441 + Int32.ofInt 1 := ⟨_, rfl⟩
        have ez1460 : z1460.toInt = g1441.toInt + 1 := gI_inc hz1460 (by decide) bg1441' (by decide) (by decide)
        have bz1460 : gB z1460 1 16777216 := ⟨by omega, by omega⟩
        refine G_iinc (L' := [(3, .int z1460), (2, .int p1326), (1, .ref q1324), (0, .ref q1323)]) z1460 0 dr_cJx4a65c_clear_da8c8_36 rfl hz1460.symm (Nat.le_of_ble_eq_true rfl) rfl ?_
        refine G_goto 27 dr_cJx4a65c_clear_da8c8_39 (by decide +kernel) ?_
        exact ih27_1449 F1453 z1460 f1456 (gB_w bz1460 (by decide) (by decide)) hfr1459 he1457 he1458 (rSrc_upN hf1456 x1447) (by have qa0 : Int32.toInt 0 = 0 := (by decide); omega) (by have qa0 : Int32.toInt 0 = 0 := (by decide); omega) (by have qa0 : Int32.toInt 0 = 0 := (by decide); omega)
  exact hlp27_1449 (((16777217 : Int) - 0).toNat + 1) F1340 0 f1327 (gB_w (gBl (show Int32.toInt 0 = 0 by decide)) (by decide) (by decide)) (rFr_v hfr1345 (fun b hn => (nm_c (fun e => hn (e ▸ List.mem_cons_self)) nm_n))) he1344 he1343 rSrc_rf (by have qa0 : Int32.toInt 0 = 0 := (by decide); omega) (by have qa0 : Int32.toInt 0 = 0 := (by decide); omega) (Nat.lt_succ_self _)
abbrev ky_1471_ArrayList_clear : gKey := (cJx4a65c_clear_da8c8, 4, "java/util/ArrayList", none, [], "clear", fun _ _ => True)
def pp_1471_ArrayList_clear (D : va_G) (I : FieldType → ClassId) (P1465 : List Nat) (F1466 : Nat → va_E) (q1467 : Nat) (p1468 : Int32) (p1469 : Int32) : Option Value → va_W → Nat → Nat → Prop := fun r w dc ds => ∃ (F1491 : Nat → va_E) (o1489 : Int32), r = none ∧ w = va_pl P1465 F1491 ∧ rFr [q1467] P1465 F1466 F1491 ∧ F1491 q1467 = .inr (4, [.int o1489, .ref (D.2 1002 1), .int 0]) ∧ dc ≤ 0 ∧ ds ≤ 0
set_option maxRecDepth 100000 in
set_option maxHeartbeats 4000000 in
theorem cp_1471_ArrayList_clear (l : Launch) (hl0 : l.stackTraces = false) (D : va_G) (I : FieldType → ClassId) (P1465 : List Nat) (F1466 : Nat → va_E) (q1467 : Nat) (p1468 : Int32) (p1469 : Int32) (hmq1467 : q1467 ∈ P1465) (heq1467 : F1466 q1467 = .inr (4, [.int p1468, .ref (D.2 1002 1), .int p1469])) (bp1469 : gB p1469 0 16777216) (x1470 : p1469.toInt = 0) : CtA (gV D I) l yJx4a65c_clear_da8c8 cJx4a65c_clear_da8c8 4 none 0 0 0 0 [.ref q1467] (va_pl P1465 F1466) (pp_1471_ArrayList_clear D I P1465 F1466 q1467 p1468 p1469) gNA := by
  refine CtA_ofF hl0 (by decide +kernel) (Nat.le_of_ble_eq_true rfl) ?_
  have bp1468 := gB_any p1468
  refine G_aload_n 0 dr_cJx4a65c_clear_da8c8_0 rfl ?_
  refine G_dup dr_cJx4a65c_clear_da8c8_1 rfl ?_
  refine Gp_getS 0 hmq1467 heq1467 dr_cJx4a65c_clear_da8c8_2 (gk_Jx4a65c D I) (Nat.le_of_ble_eq_true rfl) wr_7_20 wr_7_21 rfl ?_
  refine G_iconst 1 dr_cJx4a65c_clear_da8c8_5 (by decide +kernel) ?_
  refine G_iadd dr_cJx4a65c_clear_da8c8_6 (G_nam fun z1472 hz1472 => ?_)
  have bz1472 : gB z1472 (-2147483648) 2147483647 := gB_any z1472
  refine Gp_putS 0 hmq1467 heq1467 dr_cJx4a65c_clear_da8c8_7 (gk_Jx4a65c D I) (Nat.le_of_ble_eq_true rfl) wr_7_20 wr_7_21 rfl rfl rfl (Nat.le_of_ble_eq_true rfl) (fun F1473 e1474 n1475 => ?_)
  have he1476 : F1473 q1467 = .inr (4, [.int z1472, .ref (D.2 1002 1), .int p1469]) := e1474
  have hfr1477 : rFr [q1467] P1465 F1466 F1473 := rFr_put (rFr_rf (W := []) (P := P1465) (F := F1466)) n1475
  refine G_aload_n 0 dr_cJx4a65c_clear_da8c8_10 rfl ?_
  refine Gp_get 1 hmq1467 he1476 dr_cJx4a65c_clear_da8c8_11 (gk_Jx4a65c D I) (Nat.le_of_ble_eq_true rfl) wr_7_17 rfl ?_
  refine G_astore_n (L' := [(1, .ref (D.2 1002 1)), (0, .ref q1467)]) dr_cJx4a65c_clear_da8c8_14 (Nat.le_of_ble_eq_true rfl) rfl ?_
  refine G_aload_n 1 dr_cJx4a65c_clear_da8c8_15 rfl ?_
  refine Gp_get 2 hmq1467 he1476 dr_cJx4a65c_clear_da8c8_16 (gk_Jx4a65c D I) (Nat.le_of_ble_eq_true rfl) wr_7_18 rfl ?_
  refine G_istore_n (L' := [(2, .int p1469), (1, .ref (D.2 1002 1)), (0, .ref q1467)]) dr_cJx4a65c_clear_da8c8_19 (Nat.le_of_ble_eq_true rfl) rfl ?_
  refine G_aload_n 2 dr_cJx4a65c_clear_da8c8_20 rfl ?_
  refine G_iconst 0 dr_cJx4a65c_clear_da8c8_21 (by decide +kernel) ?_
  refine G_dup_x1 dr_cJx4a65c_clear_da8c8_22 rfl rfl ?_
  refine Gp_put 2 hmq1467 he1476 dr_cJx4a65c_clear_da8c8_23 (gk_Jx4a65c D I) (Nat.le_of_ble_eq_true rfl) wr_7_18 rfl rfl rfl (Nat.le_of_ble_eq_true rfl) (fun F1478 e1479 n1480 => ?_)
  have he1481 : F1478 q1467 = .inr (4, [.int z1472, .ref (D.2 1002 1), .int 0]) := e1479
  have hfr1482 : rFr [q1467] P1465 F1466 F1478 := rFr_put' List.mem_cons_self hfr1477 n1480
  refine G_istore_n (L' := [(3, .int 0), (2, .int p1469), (1, .ref (D.2 1002 1)), (0, .ref q1467)]) dr_cJx4a65c_clear_da8c8_26 (Nat.le_of_ble_eq_true rfl) rfl ?_
  have hlp27_1485 : ∀ (n27_1485 : Nat) , 0 < n27_1485 → G (gV D I) l (gRm 0 0 0 0) (gMA (gV D I) (pp_1471_ArrayList_clear D I P1465 F1466 q1467 p1468 p1469) gNA 0 0) ky_1471_ArrayList_clear 27 [(3, .int 0), (2, .int p1469), (1, .ref (D.2 1002 1)), (0, .ref q1467)] [] (va_pl P1465 F1478) 0 0 := by
    intro n27_1485
    induction n27_1485 with
    | zero => intro hm27_1485; exact absurd hm27_1485 (Nat.not_lt_zero _)
    | succ n27_1485 ih27_1485 =>
      intro hm27_1485
      refine G_iload_n 0 dr_cJx4a65c_clear_da8c8_27 rfl ?_
      refine G_iload_n 1 dr_cJx4a65c_clear_da8c8_28 rfl ?_
      refine G_icmp_ge 42 dr_cJx4a65c_clear_da8c8_29 (by decide +kernel) (fun hc1486 => ?_) (fun hc => absurd (show False by have := gj_nle hc (show Int32.toInt 0 = 0 by decide); omega) not_false)
      have r1488 : p1469.toInt ≤ 0 := gj_le hc1486 (show Int32.toInt 0 = 0 by decide)
      have bp1469' : gB p1469 0 0 := ⟨by omega, by omega⟩
      exact G_vretA dr_cJx4a65c_clear_da8c8_42 rfl (Nat.le_of_ble_eq_true rfl) (Nat.le_of_ble_eq_true rfl) ⟨F1478, z1472, rfl, rfl, hfr1482, he1481, (Nat.le_of_ble_eq_true rfl), (Nat.le_of_ble_eq_true rfl)⟩
  exact hlp27_1485 (0 + 1)  (Nat.lt_succ_self _)
abbrev ky_1527_ArrayList_fastRemove : gKey := (cJx4a65c_fastRemove_b59b0, 4, "java/util/ArrayList", none, [], "fastRemove", fun _ _ => True)
def pp_1527_ArrayList_fastRemove (D : va_G) (I : FieldType → ClassId) (P1514 : List Nat) (F1515 : Nat → va_E) (q1516 : Nat) (q1517 : Nat) (p1518 : Int32) (p1519 : Int32) (p1520 : Int32) (f1521 : Nat → Option Nat) (n1522 : Nat) : Option Value → va_W → Nat → Nat → Prop := fun r w dc ds => ∃ (F1578 : Nat → va_E) (o1574 : Int32) (o1575 : Int32) (f1576 : Nat → Option Nat), r = none ∧ w = va_pl P1514 F1578 ∧ rFr [q1517, q1516] P1514 F1515 F1578 ∧ F1578 q1516 = .inr (4, [.int o1574, .ref q1517, .int o1575]) ∧ F1578 q1517 = .inl (I (.object "java/lang/Object"), n1522, .inr (.inr (.inr (.inr f1576)))) ∧ dc ≤ 0 ∧ ds ≤ 0 ∧ gB o1575 (-1) 16777215 ∧ o1575.toInt = p1520.toInt - 1 ∧ ((∀ j : Nat, (j : Int) < p1518.toInt → f1576 j = f1521 j) ∧ ∀ j : Nat, p1518.toInt ≤ (j : Int) → (j : Int) < p1520.toInt - 1 → f1576 j = f1521 (j + 1)) ∧ rSrc f1576 f1521
set_option maxRecDepth 100000 in
set_option maxHeartbeats 4000000 in
theorem cp_1527_ArrayList_fastRemove (l : Launch) (hl0 : l.stackTraces = false) (D : va_G) (I : FieldType → ClassId) (P1514 : List Nat) (F1515 : Nat → va_E) (q1516 : Nat) (q1517 : Nat) (p1518 : Int32) (p1519 : Int32) (p1520 : Int32) (f1521 : Nat → Option Nat) (n1522 : Nat) (hmq1516 : q1516 ∈ P1514) (hmq1517 : q1517 ∈ P1514) (heq1516 : F1515 q1516 = .inr (4, [.int p1519, .ref q1517, .int p1520])) (heq1517 : F1515 q1517 = .inl (I (.object "java/lang/Object"), n1522, .inr (.inr (.inr (.inr f1521))))) (bp1518 : gB p1518 0 16777216) (bp1520 : gB p1520 0 16777216) (x1523 : p1518.toInt < p1520.toInt) (x1524 : p1520.toInt ≤ (n1522 : Int)) (x1525 : rEl P1514 F1515 f1521) (x1526 : ((n1522 : Int) ≤ 16777216)) : CtA (gV D I) l yJx4a65c_fastRemove_b59b0 cJx4a65c_fastRemove_b59b0 4 none 1 18 0 0 [.ref q1516, .ref q1517, .int p1518] (va_pl P1514 F1515) (pp_1527_ArrayList_fastRemove D I P1514 F1515 q1516 q1517 p1518 p1519 p1520 f1521 n1522) gNA := by
  refine CtA_ofF hl0 (by decide +kernel) (Nat.le_of_ble_eq_true rfl) ?_
  have bp1519 := gB_any p1519
  refine G_aload_n 0 dr_cJx4a65c_fastRemove_b59b0_0 rfl ?_
  refine G_dup dr_cJx4a65c_fastRemove_b59b0_1 rfl ?_
  refine Gp_getS 0 hmq1516 heq1516 dr_cJx4a65c_fastRemove_b59b0_2 (gk_Jx4a65c D I) (Nat.le_of_ble_eq_true rfl) wr_7_20 wr_7_21 rfl ?_
  refine G_iconst 1 dr_cJx4a65c_fastRemove_b59b0_5 (by decide +kernel) ?_
  refine G_iadd dr_cJx4a65c_fastRemove_b59b0_6 (G_nam fun z1528 hz1528 => ?_)
  have bz1528 : gB z1528 (-2147483648) 2147483647 := gB_any z1528
  refine Gp_putS 0 hmq1516 heq1516 dr_cJx4a65c_fastRemove_b59b0_7 (gk_Jx4a65c D I) (Nat.le_of_ble_eq_true rfl) wr_7_20 wr_7_21 rfl rfl rfl (Nat.le_of_ble_eq_true rfl) (fun F1529 e1530 n1531 => ?_)
  have he1532 : F1529 q1517 = .inl (I (.object "java/lang/Object"), n1522, .inr (.inr (.inr (.inr f1521)))) := (n1531 q1517 (rn_ao heq1517 heq1516)).trans heq1517
  have he1533 : F1529 q1516 = .inr (4, [.int z1528, .ref q1517, .int p1520]) := e1530
  have hfr1534 : rFr [q1516] P1514 F1515 F1529 := rFr_put (rFr_rf (W := []) (P := P1514) (F := F1515)) n1531
  refine G_aload_n 0 dr_cJx4a65c_fastRemove_b59b0_10 rfl ?_
  refine Gp_get 2 hmq1516 he1533 dr_cJx4a65c_fastRemove_b59b0_11 (gk_Jx4a65c D I) (Nat.le_of_ble_eq_true rfl) wr_7_18 rfl ?_
  refine G_iconst 1 dr_cJx4a65c_fastRemove_b59b0_14 (by decide +kernel) ?_
  refine G_isub dr_cJx4a65c_fastRemove_b59b0_15 (G_nam fun z1535 hz1535 => ?_)
  have ez1535 : z1535.toInt = p1520.toInt - 1 := by rw [gI_sub hz1535 bp1520 (gBl (show Int32.toInt 1 = 1 by decide)) (by decide) (by decide), show Int32.toInt 1 = 1 from by decide]
  have bz1535 : gB z1535 (-1) 16777215 := gB_sub (gI_sub hz1535 bp1520 (gBl (show Int32.toInt 1 = 1 by decide)) (by decide) (by decide)) bp1520 (gBl (show Int32.toInt 1 = 1 by decide)) (by decide) (by decide)
  refine G_dup dr_cJx4a65c_fastRemove_b59b0_16 rfl ?_
  refine G_istore_n (L' := [(3, .int z1535), (0, .ref q1516), (1, .ref q1517), (2, .int p1518)]) dr_cJx4a65c_fastRemove_b59b0_17 (Nat.le_of_ble_eq_true rfl) rfl ?_
  refine G_iload_n 3 dr_cJx4a65c_fastRemove_b59b0_18 rfl ?_
  refine G_icmp_le 34 dr_cJx4a65c_fastRemove_b59b0_19 (by decide +kernel) (fun hc1536 => ?_) (fun hc1536 => ?_)
  · have r1537 : z1535.toInt ≤ p1518.toInt := gC_le hc1536
    refine G_aload_n 2 dr_cJx4a65c_fastRemove_b59b0_34 rfl ?_
    refine G_aload_n 1 dr_cJx4a65c_fastRemove_b59b0_35 rfl ?_
    refine G_iload_n 0 dr_cJx4a65c_fastRemove_b59b0_36 rfl ?_
    refine G_dup_x1 dr_cJx4a65c_fastRemove_b59b0_37 rfl rfl ?_
    refine Gp_put 2 hmq1516 he1533 dr_cJx4a65c_fastRemove_b59b0_38 (gk_Jx4a65c D I) (Nat.le_of_ble_eq_true rfl) wr_7_18 rfl rfl rfl (Nat.le_of_ble_eq_true rfl) (fun F1538 e1539 n1540 => ?_)
    have he1541 : F1538 q1517 = .inl (I (.object "java/lang/Object"), n1522, .inr (.inr (.inr (.inr f1521)))) := (n1540 q1517 (rn_ao he1532 he1533)).trans he1532
    have he1542 : F1538 q1516 = .inr (4, [.int z1528, .ref q1517, .int z1535]) := e1539
    have hfr1543 : rFr [q1516] P1514 F1515 F1538 := rFr_put' List.mem_cons_self hfr1534 n1540
    refine G_null dr_cJx4a65c_fastRemove_b59b0_41 ?_
    refine Gp_aastN 4 hmq1517 he1541 dr_cJx4a65c_fastRemove_b59b0_42 rfl (gB_inr (by omega) (by omega)) (fun F1544 e1545 n1546 => ?_)
    obtain ⟨f1547, hf1547⟩ : ∃ z, z = va_up f1521 z1535.toNatClampNeg none := ⟨_, rfl⟩
    rw [← hf1547] at e1545
    have he1548 : F1544 q1516 = .inr (4, [.int z1528, .ref q1517, .int z1535]) := (n1546 q1516 (rn_oa he1542 he1541)).trans he1542
    have he1549 : F1544 q1517 = .inl (I (.object "java/lang/Object"), n1522, .inr (.inr (.inr (.inr f1547)))) := e1545
    have hfr1550 : rFr [q1517, q1516] P1514 F1515 F1544 := rFr_put hfr1543 n1546
    exact G_vretA dr_cJx4a65c_fastRemove_b59b0_43 rfl (Nat.le_of_ble_eq_true rfl) (Nat.le_of_ble_eq_true rfl) ⟨F1544, z1528, z1535, f1547, rfl, rfl, hfr1550, he1548, he1549, (Nat.le_of_ble_eq_true rfl), (Nat.le_of_ble_eq_true rfl), bz1535, (by omega), (rI_del0 (m := _) hf1547 (by omega) (by omega) (by omega)), (rSrc_upN hf1547 rSrc_rf)⟩
  · have r1551 : p1518.toInt < z1535.toInt := gC_nle hc1536
    have bp1518' : gB p1518 0 16777214 := ⟨by omega, by omega⟩
    have bz1535' : gB z1535 1 16777215 := ⟨by omega, by omega⟩
    refine G_aload_n 2 dr_cJx4a65c_fastRemove_b59b0_22 rfl ?_
    refine G_iload_n 3 dr_cJx4a65c_fastRemove_b59b0_23 rfl ?_
    refine G_iconst 1 dr_cJx4a65c_fastRemove_b59b0_24 (by decide +kernel) ?_
    refine G_iadd dr_cJx4a65c_fastRemove_b59b0_25 (G_nam fun z1552 hz1552 => ?_)
    have ez1552 : z1552.toInt = p1518.toInt + 1 := by rw [gI_add hz1552 bp1518' (gBl (show Int32.toInt 1 = 1 by decide)) (by decide) (by decide), show Int32.toInt 1 = 1 from by decide]
    have bz1552 : gB z1552 1 16777215 := gB_add (gI_add hz1552 bp1518' (gBl (show Int32.toInt 1 = 1 by decide)) (by decide) (by decide)) bp1518' (gBl (show Int32.toInt 1 = 1 by decide)) (by decide) (by decide)
    refine G_aload_n 2 dr_cJx4a65c_fastRemove_b59b0_26 rfl ?_
    refine G_iload_n 3 dr_cJx4a65c_fastRemove_b59b0_27 rfl ?_
    refine G_iload_n 0 dr_cJx4a65c_fastRemove_b59b0_28 rfl ?_
    refine G_iload_n 3 dr_cJx4a65c_fastRemove_b59b0_29 rfl ?_
    refine G_isub dr_cJx4a65c_fastRemove_b59b0_30 (G_nam fun z1553 hz1553 => ?_)
    have ez1553 : z1553.toInt = z1535.toInt - p1518.toInt := by rw [gI_sub hz1553 bz1535' bp1518' (by decide) (by decide)]
    have bz1553 : gB z1553 (-16777213) 16777215 := gB_sub (gI_sub hz1553 bz1535' bp1518' (by decide) (by decide)) bz1535' bp1518' (by decide) (by decide)
    refine Gp_copyq 4 hmq1517 hmq1517 he1532 he1532 dr_cJx4a65c_fastRemove_b59b0_31 wr_10_228 wr_5_113 wr_5_112 wr_1_34 rfl (by omega) (by omega) (by omega) (by omega) (by omega) (fun j _ w hw => rEl_ob (rEl_frG (rEl_src x1525 rSrc_rf) (rSub_rf (P := P1514)) hfr1534 (rNg_c (rNg_o heq1516 (by decide) (by decide)) rNg_n)) hw) (Nat.le_of_ble_eq_true rfl) (Nat.le_of_ble_eq_true rfl) (fun F1554 e1555 n1556 => ?_)
    obtain ⟨f1557, hf1557⟩ : ∃ z, z = va_cpy f1521 f1521 z1552.toNatClampNeg p1518.toNatClampNeg z1553.toNatClampNeg := ⟨_, rfl⟩
    rw [← hf1557] at e1555
    have he1558 : F1554 q1516 = .inr (4, [.int z1528, .ref q1517, .int p1520]) := (n1556 q1516 (rn_oa he1533 he1532)).trans he1533
    have he1559 : F1554 q1517 = .inl (I (.object "java/lang/Object"), n1522, .inr (.inr (.inr (.inr f1557)))) := e1555
    have hfr1560 : rFr [q1517, q1516] P1514 F1515 F1554 := rFr_put hfr1534 n1556
    refine G_aload_n 2 dr_cJx4a65c_fastRemove_b59b0_34 rfl ?_
    refine G_aload_n 1 dr_cJx4a65c_fastRemove_b59b0_35 rfl ?_
    refine G_iload_n 0 dr_cJx4a65c_fastRemove_b59b0_36 rfl ?_
    refine G_dup_x1 dr_cJx4a65c_fastRemove_b59b0_37 rfl rfl ?_
    refine Gp_put 2 hmq1516 he1558 dr_cJx4a65c_fastRemove_b59b0_38 (gk_Jx4a65c D I) (Nat.le_of_ble_eq_true rfl) wr_7_18 rfl rfl rfl (Nat.le_of_ble_eq_true rfl) (fun F1561 e1562 n1563 => ?_)
    have he1564 : F1561 q1517 = .inl (I (.object "java/lang/Object"), n1522, .inr (.inr (.inr (.inr f1557)))) := (n1563 q1517 (rn_ao he1559 he1558)).trans he1559
    have he1565 : F1561 q1516 = .inr (4, [.int z1528, .ref q1517, .int z1535]) := e1562
    have hfr1566 : rFr [q1517, q1516] P1514 F1515 F1561 := rFr_put' (List.mem_cons_of_mem _ List.mem_cons_self) hfr1560 n1563
    refine G_null dr_cJx4a65c_fastRemove_b59b0_41 ?_
    refine Gp_aastN 4 hmq1517 he1564 dr_cJx4a65c_fastRemove_b59b0_42 rfl (gB_inr (by omega) (by omega)) (fun F1567 e1568 n1569 => ?_)
    obtain ⟨f1570, hf1570⟩ : ∃ z, z = va_up f1557 z1535.toNatClampNeg none := ⟨_, rfl⟩
    rw [← hf1570] at e1568
    have he1571 : F1567 q1516 = .inr (4, [.int z1528, .ref q1517, .int z1535]) := (n1569 q1516 (rn_oa he1565 he1564)).trans he1565
    have he1572 : F1567 q1517 = .inl (I (.object "java/lang/Object"), n1522, .inr (.inr (.inr (.inr f1570)))) := e1568
    have hfr1573 : rFr [q1517, q1516] P1514 F1515 F1567 := rFr_put' List.mem_cons_self hfr1566 n1569
    exact G_vretA dr_cJx4a65c_fastRemove_b59b0_43 rfl (Nat.le_of_ble_eq_true rfl) (Nat.le_of_ble_eq_true rfl) ⟨F1567, z1528, z1535, f1570, rfl, rfl, hfr1573, he1571, he1572, (Nat.le_of_ble_eq_true rfl), (Nat.le_of_ble_eq_true rfl), (gB_w bz1535' (by decide) (by decide)), (by omega), (rI_del (m := _) hf1557 hf1570 (by omega) (by omega) (by omega) (by omega) (by omega)), (rSrc_upN hf1570 (rSrc_cpy hf1557 rSrc_rf rSrc_rf))⟩
abbrev ky_1507_ArrayList_remove : gKey := (cJx4a65c_remove_915e3, 4, "java/util/ArrayList", (some (FieldType.object "java/lang/Object")), [], "remove", fun _ _ => True)
def pp_1507_ArrayList_remove (D : va_G) (I : FieldType → ClassId) (P1492 : List Nat) (F1493 : Nat → va_E) (q1494 : Nat) (q1495 : Nat) (p1496 : Int32) (p1497 : Int32) (p1498 : Int32) (f1499 : Nat → Option Nat) (n1500 : Nat) (x1501 : Nat) : Option Value → va_W → Nat → Nat → Prop := fun r w dc ds => ∃ (F1600 : Nat → va_E) (o1596 : Int32) (o1597 : Int32) (f1598 : Nat → Option Nat), r = some (.ref x1501) ∧ w = va_pl P1492 F1600 ∧ rFr [q1495, q1494] P1492 F1493 F1600 ∧ F1600 q1494 = .inr (4, [.int o1596, .ref q1495, .int o1597]) ∧ F1600 q1495 = .inl (I (.object "java/lang/Object"), n1500, .inr (.inr (.inr (.inr f1598)))) ∧ dc ≤ 0 ∧ ds ≤ 0 ∧ gB o1597 (-1) 16777215 ∧ o1597.toInt = p1498.toInt - 1 ∧ ((∀ j : Nat, (j : Int) < p1496.toInt → f1598 j = f1499 j) ∧ ∀ j : Nat, p1496.toInt ≤ (j : Int) → (j : Int) < p1498.toInt - 1 → f1598 j = f1499 (j + 1)) ∧ rSrc f1598 f1499
set_option maxRecDepth 100000 in
set_option maxHeartbeats 4000000 in
theorem cp_1507_ArrayList_remove (l : Launch) (hl0 : l.stackTraces = false) (D : va_G) (I : FieldType → ClassId) (P1492 : List Nat) (F1493 : Nat → va_E) (q1494 : Nat) (q1495 : Nat) (p1496 : Int32) (p1497 : Int32) (p1498 : Int32) (f1499 : Nat → Option Nat) (n1500 : Nat) (x1501 : Nat) (hmq1494 : q1494 ∈ P1492) (hmq1495 : q1495 ∈ P1492) (heq1494 : F1493 q1494 = .inr (4, [.int p1497, .ref q1495, .int p1498])) (heq1495 : F1493 q1495 = .inl (I (.object "java/lang/Object"), n1500, .inr (.inr (.inr (.inr f1499))))) (bp1496 : gB p1496 0 16777216) (bp1498 : gB p1498 0 16777216) (x1502 : p1496.toInt < p1498.toInt) (x1503 : p1498.toInt ≤ (n1500 : Int)) (x1504 : rEl P1492 F1493 f1499) (x1505 : f1499 p1496.toNatClampNeg = some x1501) (x1506 : ((n1500 : Int) ≤ 16777216)) : CtA (gV D I) l yJx4a65c_remove_915e3 cJx4a65c_remove_915e3 4 (some (FieldType.object "java/lang/Object")) 2 43 0 0 [.ref q1494, .int p1496] (va_pl P1492 F1493) (pp_1507_ArrayList_remove D I P1492 F1493 q1494 q1495 p1496 p1497 p1498 f1499 n1500 x1501) gNA := by
  refine CtA_ofF hl0 (by decide +kernel) (Nat.le_of_ble_eq_true rfl) ?_
  have bp1497 := gB_any p1497
  refine G_iload_n 1 dr_cJx4a65c_remove_915e3_0 rfl ?_
  refine G_aload_n 0 dr_cJx4a65c_remove_915e3_1 rfl ?_
  refine Gp_get 2 hmq1494 heq1494 dr_cJx4a65c_remove_915e3_2 (gk_Jx4a65c D I) (Nat.le_of_ble_eq_true rfl) wr_7_18 rfl ?_
  refine Gw_callS (As := [.int p1496, .int p1498]) (gV_ok D I) (cp_28_Objects_checkIndex l hl0 D I P1492 F1493 p1496 p1498 bp1496 bp1498 (by omega)) dr_cJx4a65c_remove_915e3_5 ⟨wr_10_66, wr_1_40, wr_10_68, by decide, rfl, (Nat.le_of_ble_eq_true rfl), (Nat.le_of_ble_eq_true rfl)⟩ wr_10_67 (show 0 + 0 ≤ 0 by first | omega | decide) (show 0 + 0 ≤ 0 by first | omega | decide) (Nat.le_of_ble_eq_true rfl) (fun r1511 w1512 dc1508 ds1509 hp1510 => ?_) (fun _ _ _ _ _ z => z.elim)
  obtain ⟨rfl, rfl, hdc, hds, ht1513⟩ := hp1510
  change G _ _ _ _ _ _ _ (.int p1496 :: _) _ _ _
  refine G_widen (cs' := 0) (sl' := 0) (by omega) (by omega) ?_
  refine G_pop dr_cJx4a65c_remove_915e3_8 rfl ?_
  refine G_aload_n 0 dr_cJx4a65c_remove_915e3_9 rfl ?_
  refine Gp_get 1 hmq1494 heq1494 dr_cJx4a65c_remove_915e3_10 (gk_Jx4a65c D I) (Nat.le_of_ble_eq_true rfl) wr_7_17 rfl ?_
  refine G_astore_n (L' := [(2, .ref q1495), (0, .ref q1494), (1, .int p1496)]) dr_cJx4a65c_remove_915e3_13 (Nat.le_of_ble_eq_true rfl) rfl ?_
  refine G_aload_n 0 dr_cJx4a65c_remove_915e3_14 rfl ?_
  refine G_iload_n 2 dr_cJx4a65c_remove_915e3_15 rfl ?_
  refine Gp_aald 4 hmq1495 heq1495 dr_cJx4a65c_remove_915e3_16 rfl rfl (gB_inr (by omega) (by omega)) ?_
  rw [x1505]
  change G _ _ _ _ _ _ _ (.ref x1501 :: _) _ _ _
  refine G_astore_n (L' := [(3, .ref x1501), (2, .ref q1495), (0, .ref q1494), (1, .int p1496)]) dr_cJx4a65c_remove_915e3_17 (Nat.le_of_ble_eq_true rfl) rfl ?_
  refine G_aload_n 2 dr_cJx4a65c_remove_915e3_18 rfl ?_
  refine G_aload_n 1 dr_cJx4a65c_remove_915e3_19 rfl ?_
  refine G_iload_n 3 dr_cJx4a65c_remove_915e3_20 rfl ?_
  refine Gw_callV (As := [.ref q1495, .int p1496]) (gV_ok D I) (cp_1527_ArrayList_fastRemove l hl0 D I P1492 F1493 q1494 q1495 p1496 p1497 p1498 f1499 n1500 hmq1494 hmq1495 heq1494 heq1495 bp1496 bp1498 (by omega) (by omega) (rEl_frG (rEl_src x1504 rSrc_rf) (rSub_rf (P := P1492)) (rFr_rf (W := []) (P := P1492) (F := F1493)) rNg_n) (by omega)) dr_cJx4a65c_remove_915e3_21 ⟨wr_11_26, wr_1_18, wr_11_29, by decide, rfl, (Nat.le_of_ble_eq_true rfl), (Nat.le_of_ble_eq_true rfl)⟩ wr_11_28 wr_p_103 hmq1494 heq1494 rfl (show 0 + 0 ≤ 0 by first | omega | decide) (show 0 + 0 ≤ 0 by first | omega | decide) (Nat.le_of_ble_eq_true rfl) (fun r1582 w1583 dc1579 ds1580 hp1581 => ?_) (fun _ _ _ _ _ z => z.elim)
  obtain ⟨F1590, o1584, o1585, f1586, rfl, rfl, hfr1592, he1593, he1594, hdc, hds, bo1585, x1587, x1588, x1589⟩ := hp1581
  have hfr1595 : rFr [q1495, q1494] P1492 F1493 F1590 := rFr_call (rSub_rf (P := P1492)) (rFr_rf (W := []) (P := P1492) (F := F1493)) hfr1592 (fun b hb hn => ⟨nm_n, (nm_c (fun e => hn (e ▸ List.mem_cons_self)) (nm_c (fun e => hn (e ▸ (List.mem_cons_of_mem _ List.mem_cons_self))) nm_n))⟩)
  have bo1584 := gB_any o1584
  change G _ _ _ _ _ _ _ _ _ _ _
  refine G_widen (cs' := 0) (sl' := 0) (by omega) (by omega) ?_
  refine G_aload_n 0 dr_cJx4a65c_remove_915e3_24 rfl ?_
  exact G_aretA (FieldType.object "java/lang/Object") dr_cJx4a65c_remove_915e3_25 rfl (by first | exact Or.inl ⟨_, rfl⟩ | exact Or.inr ⟨_, rfl⟩) (Or.inr ⟨_, rfl⟩) (Nat.le_of_ble_eq_true rfl) (Nat.le_of_ble_eq_true rfl) ⟨F1590, o1584, o1585, f1586, rfl, rfl, hfr1595, he1593, he1594, (Nat.le_of_ble_eq_true rfl), (Nat.le_of_ble_eq_true rfl), bo1585, (by omega), (by assumption), (rSrc_tr x1589 rSrc_rf)⟩
abbrev ky_1618_AbstractCollection_init : gKey := (cJxa1e45_init_da8c8, 1, "java/util/AbstractCollection", none, [], "<init>", fun _ _ => True)
def pp_1618_AbstractCollection_init (D : va_G) (I : FieldType → ClassId) (P1613 : List Nat) (F1614 : Nat → va_E) (q1615 : Nat) (p1616 : Int32) (p1617 : Int32) : Option Value → va_W → Nat → Nat → Prop := fun r w dc ds => r = none ∧ w = va_pl P1613 F1614 ∧ dc ≤ 0 ∧ ds ≤ 0
set_option maxRecDepth 100000 in
set_option maxHeartbeats 4000000 in
theorem cp_1618_AbstractCollection_init (l : Launch) (hl0 : l.stackTraces = false) (D : va_G) (I : FieldType → ClassId) (P1613 : List Nat) (F1614 : Nat → va_E) (q1615 : Nat) (p1616 : Int32) (p1617 : Int32) (hmq1615 : q1615 ∈ P1613) (heq1615 : F1614 q1615 = .inr (4, [.int p1616, .null, .int p1617])) : CtA (gV D I) l yJxa1e45_init_da8c8 cJxa1e45_init_da8c8 1 none 1 12 0 0 [.ref q1615] (va_pl P1613 F1614) (pp_1618_AbstractCollection_init D I P1613 F1614 q1615 p1616 p1617) gNA := by
  refine CtA_ofF hl0 (by decide +kernel) (Nat.le_of_ble_eq_true rfl) ?_
  have bp1616 := gB_any p1616
  have bp1617 := gB_any p1617
  refine G_aload_n 0 dr_cJxa1e45_init_da8c8_0 rfl ?_
  refine G_obj dr_cJxa1e45_init_da8c8_1 wr_7_14 wr_1_51 wr_1_52 (Nat.le_of_ble_eq_true rfl) (Nat.le_of_ble_eq_true rfl) ?_
  exact G_vretA dr_cJxa1e45_init_da8c8_4 rfl (Nat.le_of_ble_eq_true rfl) (Nat.le_of_ble_eq_true rfl) ⟨rfl, rfl, (Nat.le_of_ble_eq_true rfl), (Nat.le_of_ble_eq_true rfl)⟩
abbrev ky_1612_AbstractList_init : gKey := (cJxc12de_init_da8c8, 1, "java/util/AbstractList", none, [], "<init>", fun _ _ => True)
def pp_1612_AbstractList_init (D : va_G) (I : FieldType → ClassId) (P1607 : List Nat) (F1608 : Nat → va_E) (q1609 : Nat) (p1610 : Int32) (p1611 : Int32) : Option Value → va_W → Nat → Nat → Prop := fun r w dc ds => ∃ (F1630 : Nat → va_E), r = none ∧ w = va_pl P1607 F1630 ∧ rFr [q1609] P1607 F1608 F1630 ∧ F1630 q1609 = .inr (4, [.int 0, .null, .int p1611]) ∧ dc ≤ 0 ∧ ds ≤ 0
set_option maxRecDepth 100000 in
set_option maxHeartbeats 4000000 in
theorem cp_1612_AbstractList_init (l : Launch) (hl0 : l.stackTraces = false) (D : va_G) (I : FieldType → ClassId) (P1607 : List Nat) (F1608 : Nat → va_E) (q1609 : Nat) (p1610 : Int32) (p1611 : Int32) (hmq1609 : q1609 ∈ P1607) (heq1609 : F1608 q1609 = .inr (4, [.int p1610, .null, .int p1611])) : CtA (gV D I) l yJxc12de_init_da8c8 cJxc12de_init_da8c8 1 none 2 32 0 0 [.ref q1609] (va_pl P1607 F1608) (pp_1612_AbstractList_init D I P1607 F1608 q1609 p1610 p1611) gNA := by
  refine CtA_ofF hl0 (by decide +kernel) (Nat.le_of_ble_eq_true rfl) ?_
  have bp1610 := gB_any p1610
  have bp1611 := gB_any p1611
  refine G_aload_n 0 dr_cJxc12de_init_da8c8_0 rfl ?_
  refine Gw_callI (As := []) (gV_ok D I) (cp_1618_AbstractCollection_init l hl0 D I P1607 F1608 q1609 p1610 p1611 hmq1609 heq1609) dr_cJxc12de_init_da8c8_1 ⟨wr_7_11, wr_1_16, wr_7_13, by decide, rfl, (Nat.le_of_ble_eq_true rfl), (Nat.le_of_ble_eq_true rfl)⟩ wr_7_12 rfl (show 0 + 0 ≤ 0 by first | omega | decide) (show 0 + 0 ≤ 0 by first | omega | decide) (Nat.le_of_ble_eq_true rfl) (fun r1622 w1623 dc1619 ds1620 hp1621 => ?_)
  obtain ⟨rfl, rfl, hdc, hds⟩ := hp1621
  change G _ _ _ _ _ _ _ _ _ _ _
  refine G_widen (cs' := 0) (sl' := 0) (by omega) (by omega) ?_
  refine G_aload_n 0 dr_cJxc12de_init_da8c8_4 rfl ?_
  refine G_iconst 0 dr_cJxc12de_init_da8c8_5 (by decide +kernel) ?_
  refine Gp_put 0 hmq1609 heq1609 dr_cJxc12de_init_da8c8_6 (gk_Jx4a65c D I) (Nat.le_of_ble_eq_true rfl) wr_7_19 rfl rfl rfl (Nat.le_of_ble_eq_true rfl) (fun F1624 e1625 n1626 => ?_)
  have he1627 : F1624 q1609 = .inr (4, [.int 0, .null, .int p1611]) := e1625
  have hfr1628 : rFr [q1609] P1607 F1608 F1624 := rFr_put (rFr_rf (W := []) (P := P1607) (F := F1608)) n1626
  exact G_vretA dr_cJxc12de_init_da8c8_9 rfl (Nat.le_of_ble_eq_true rfl) (Nat.le_of_ble_eq_true rfl) ⟨F1624, rfl, rfl, hfr1628, he1627, (Nat.le_of_ble_eq_true rfl), (Nat.le_of_ble_eq_true rfl)⟩
end
section
theorem dr_cJx4a65c_init_da8c8_0 : decode cJx4a65c_init_da8c8 0 = .ok (.aload_n 0, 1) := by decide +kernel
theorem dr_cJx4a65c_init_da8c8_1 : decode cJx4a65c_init_da8c8 1 = .ok (.invokespecial 1, 3) := by decide +kernel
theorem wr_7_8 : (Jvm.Cond.methodLink "java/util/ArrayList" (1 : Nat) ({ cls := "java/util/AbstractList", name := "<init>", desc := "()V" } : Jvm.MethodName)) ∈ gw := gw_7 8 rfl rfl
theorem wr_1_17 : (Jvm.Cond.initialized "java/util/AbstractList") ∈ gw := gw_1 17 rfl rfl
theorem wr_7_10 : (Jvm.Cond.code ({ cls := "java/util/AbstractList", name := "<init>", desc := "()V" } : Jvm.MethodName) prog_42_method_1_code (1 : Nat) (Option.none : Option Jvm.ClassFile.FieldType)) ∈ gw := gw_7 10 rfl rfl
theorem wr_7_9 : (Jvm.Cond.instanceMethod ({ cls := "java/util/AbstractList", name := "<init>", desc := "()V" } : Jvm.MethodName)) ∈ gw := gw_7 9 rfl rfl
theorem dr_cJx4a65c_init_da8c8_4 : decode cJx4a65c_init_da8c8 4 = .ok (.aload_n 0, 1) := by decide +kernel
theorem dr_cJx4a65c_init_da8c8_5 : decode cJx4a65c_init_da8c8 5 = .ok (.getstatic 39, 3) := by decide +kernel
theorem dr_cJx4a65c_init_da8c8_8 : decode cJx4a65c_init_da8c8 8 = .ok (.putfield 9, 3) := by decide +kernel
theorem dr_cJx4a65c_init_da8c8_11 : decode cJx4a65c_init_da8c8 11 = .ok (.return_, 1) := by decide +kernel
theorem dr_cX15_sets_0 : decode cX15_sets 0 = .ok (.aload_n 0, 1) := by decide +kernel
theorem dr_cX15_sets_1 : decode cX15_sets 1 = .ok (.getfield 9, 3) := by decide +kernel
theorem wr_9_175 : (Jvm.Cond.fieldLink "SpillForgeModel$Row" (9 : Nat) "SpillForgeModel$Row" "op" "I") ∈ gw := gw_9 175 rfl rfl
theorem dr_cX15_sets_4 : decode cX15_sets 4 = .ok (.bipush 21, 2) := by decide +kernel
theorem dr_cX15_sets_6 : decode cX15_sets 6 = .ok (.if_icmp .gt 7, 3) := by decide +kernel
theorem dr_cX15_sets_13 : decode cX15_sets 13 = .ok (.iconst 0, 1) := by decide +kernel
theorem dr_cX15_sets_14 : decode cX15_sets 14 = .ok (.ireturn, 1) := by decide +kernel
theorem dr_cX15_sets_9 : decode cX15_sets 9 = .ok (.iconst 1, 1) := by decide +kernel
theorem dr_cX15_sets_10 : decode cX15_sets 10 = .ok (.goto 4, 3) := by decide +kernel
theorem dr_cX15_usesA_0 : decode cX15_usesA 0 = .ok (.aload_n 0, 1) := by decide +kernel
theorem dr_cX15_usesA_1 : decode cX15_usesA 1 = .ok (.getfield 9, 3) := by decide +kernel
theorem dr_cX15_usesA_4 : decode cX15_usesA 4 = .ok (.bipush 20, 2) := by decide +kernel
theorem dr_cX15_usesA_6 : decode cX15_usesA 6 = .ok (.if_icmp .eq 32, 3) := by decide +kernel
theorem dr_cX15_usesA_38 : decode cX15_usesA 38 = .ok (.iconst 0, 1) := by decide +kernel
theorem dr_cX15_usesA_39 : decode cX15_usesA 39 = .ok (.ireturn, 1) := by decide +kernel
theorem dr_cX15_usesA_9 : decode cX15_usesA 9 = .ok (.aload_n 0, 1) := by decide +kernel
theorem dr_cX15_usesA_10 : decode cX15_usesA 10 = .ok (.getfield 9, 3) := by decide +kernel
theorem dr_cX15_usesA_13 : decode cX15_usesA 13 = .ok (.bipush 21, 2) := by decide +kernel
theorem dr_cX15_usesA_15 : decode cX15_usesA 15 = .ok (.if_icmp .eq 23, 3) := by decide +kernel
theorem dr_cX15_usesA_18 : decode cX15_usesA 18 = .ok (.aload_n 0, 1) := by decide +kernel
theorem dr_cX15_usesA_19 : decode cX15_usesA 19 = .ok (.getfield 9, 3) := by decide +kernel
theorem dr_cX15_usesA_22 : decode cX15_usesA 22 = .ok (.bipush 30, 2) := by decide +kernel
theorem dr_cX15_usesA_24 : decode cX15_usesA 24 = .ok (.if_icmp .eq 14, 3) := by decide +kernel
theorem dr_cX15_usesA_27 : decode cX15_usesA 27 = .ok (.aload_n 0, 1) := by decide +kernel
theorem dr_cX15_usesA_28 : decode cX15_usesA 28 = .ok (.getfield 15, 3) := by decide +kernel
theorem wr_9_195 : (Jvm.Cond.fieldLink "SpillForgeModel$Row" (15 : Nat) "SpillForgeModel$Row" "regA" "Z") ∈ gw := gw_9 195 rfl rfl
theorem dr_cX15_usesA_31 : decode cX15_usesA 31 = .ok (.ifCond .eq 7, 3) := by decide +kernel
theorem dr_cX15_usesA_34 : decode cX15_usesA 34 = .ok (.iconst 1, 1) := by decide +kernel
theorem dr_cX15_usesA_35 : decode cX15_usesA 35 = .ok (.goto 4, 3) := by decide +kernel
theorem dr_cX15_usesB_0 : decode cX15_usesB 0 = .ok (.aload_n 0, 1) := by decide +kernel
theorem dr_cX15_usesB_1 : decode cX15_usesB 1 = .ok (.getfield 9, 3) := by decide +kernel
theorem dr_cX15_usesB_4 : decode cX15_usesB 4 = .ok (.ifCond .le 23, 3) := by decide +kernel
theorem dr_cX15_usesB_27 : decode cX15_usesB 27 = .ok (.iconst 0, 1) := by decide +kernel
theorem dr_cX15_usesB_28 : decode cX15_usesB 28 = .ok (.ireturn, 1) := by decide +kernel
theorem dr_cX15_usesB_7 : decode cX15_usesB 7 = .ok (.aload_n 0, 1) := by decide +kernel
theorem dr_cX15_usesB_8 : decode cX15_usesB 8 = .ok (.getfield 9, 3) := by decide +kernel
theorem dr_cX15_usesB_11 : decode cX15_usesB 11 = .ok (.bipush 20, 2) := by decide +kernel
theorem dr_cX15_usesB_13 : decode cX15_usesB 13 = .ok (.if_icmp .ge 14, 3) := by decide +kernel
theorem dr_cX15_usesB_16 : decode cX15_usesB 16 = .ok (.aload_n 0, 1) := by decide +kernel
theorem dr_cX15_usesB_17 : decode cX15_usesB 17 = .ok (.getfield 19, 3) := by decide +kernel
theorem wr_9_199 : (Jvm.Cond.fieldLink "SpillForgeModel$Row" (19 : Nat) "SpillForgeModel$Row" "regB" "Z") ∈ gw := gw_9 199 rfl rfl
theorem dr_cX15_usesB_20 : decode cX15_usesB 20 = .ok (.ifCond .eq 7, 3) := by decide +kernel
theorem dr_cX15_usesB_23 : decode cX15_usesB 23 = .ok (.iconst 1, 1) := by decide +kernel
theorem dr_cX15_usesB_24 : decode cX15_usesB 24 = .ok (.goto 4, 3) := by decide +kernel
theorem dr_cX15_put_0 : decode cX15_put 0 = .ok (.aload_n 0, 1) := by decide +kernel
theorem dr_cX15_put_1 : decode cX15_put 1 = .ok (.aload_n 1, 1) := by decide +kernel
theorem dr_cX15_put_2 : decode cX15_put 2 = .ok (.getfield 9, 3) := by decide +kernel
theorem dr_cX15_put_5 : decode cX15_put 5 = .ok (.putfield 9, 3) := by decide +kernel
theorem dr_cX15_put_8 : decode cX15_put 8 = .ok (.aload_n 0, 1) := by decide +kernel
theorem dr_cX15_put_9 : decode cX15_put 9 = .ok (.aload_n 1, 1) := by decide +kernel
theorem dr_cX15_put_10 : decode cX15_put 10 = .ok (.getfield 35, 3) := by decide +kernel
theorem wr_9_181 : (Jvm.Cond.fieldLink "SpillForgeModel$Row" (35 : Nat) "SpillForgeModel$Row" "t" "I") ∈ gw := gw_9 181 rfl rfl
theorem dr_cX15_put_13 : decode cX15_put 13 = .ok (.putfield 35, 3) := by decide +kernel
theorem dr_cX15_put_16 : decode cX15_put 16 = .ok (.aload_n 0, 1) := by decide +kernel
theorem dr_cX15_put_17 : decode cX15_put 17 = .ok (.aload_n 1, 1) := by decide +kernel
theorem dr_cX15_put_18 : decode cX15_put 18 = .ok (.getfield 26, 3) := by decide +kernel
theorem wr_9_185 : (Jvm.Cond.fieldLink "SpillForgeModel$Row" (26 : Nat) "SpillForgeModel$Row" "a" "I") ∈ gw := gw_9 185 rfl rfl
theorem dr_cX15_put_21 : decode cX15_put 21 = .ok (.putfield 26, 3) := by decide +kernel
theorem dr_cX15_put_24 : decode cX15_put 24 = .ok (.aload_n 0, 1) := by decide +kernel
theorem dr_cX15_put_25 : decode cX15_put 25 = .ok (.aload_n 1, 1) := by decide +kernel
theorem dr_cX15_put_26 : decode cX15_put 26 = .ok (.getfield 32, 3) := by decide +kernel
theorem wr_9_189 : (Jvm.Cond.fieldLink "SpillForgeModel$Row" (32 : Nat) "SpillForgeModel$Row" "b" "I") ∈ gw := gw_9 189 rfl rfl
theorem dr_cX15_put_29 : decode cX15_put 29 = .ok (.putfield 32, 3) := by decide +kernel
theorem dr_cX15_put_32 : decode cX15_put 32 = .ok (.aload_n 0, 1) := by decide +kernel
theorem dr_cX15_put_33 : decode cX15_put 33 = .ok (.aload_n 1, 1) := by decide +kernel
theorem dr_cX15_put_34 : decode cX15_put 34 = .ok (.getfield 15, 3) := by decide +kernel
theorem dr_cX15_put_37 : decode cX15_put 37 = .ok (.putfield 15, 3) := by decide +kernel
theorem dr_cX15_put_40 : decode cX15_put 40 = .ok (.aload_n 0, 1) := by decide +kernel
theorem dr_cX15_put_41 : decode cX15_put 41 = .ok (.aload_n 1, 1) := by decide +kernel
theorem dr_cX15_put_42 : decode cX15_put 42 = .ok (.getfield 19, 3) := by decide +kernel
theorem dr_cX15_put_45 : decode cX15_put 45 = .ok (.putfield 19, 3) := by decide +kernel
theorem dr_cX15_put_48 : decode cX15_put 48 = .ok (.aload_n 0, 1) := by decide +kernel
theorem dr_cX15_put_49 : decode cX15_put 49 = .ok (.aload_n 1, 1) := by decide +kernel
theorem dr_cX15_put_50 : decode cX15_put 50 = .ok (.getfield 38, 3) := by decide +kernel
theorem wr_9_194 : (Jvm.Cond.fieldLink "SpillForgeModel$Row" (38 : Nat) "SpillForgeModel$Row" "slot" "I") ∈ gw := gw_9 194 rfl rfl
theorem dr_cX15_put_53 : decode cX15_put 53 = .ok (.putfield 38, 3) := by decide +kernel
theorem dr_cX15_put_56 : decode cX15_put 56 = .ok (.return_, 1) := by decide +kernel
theorem dr_cX17_setOf_0 : decode cX17_setOf 0 = .ok (.iload_n 1, 1) := by decide +kernel
theorem dr_cX17_setOf_1 : decode cX17_setOf 1 = .ok (.ifCond .eq 23, 3) := by decide +kernel
theorem dr_cX17_setOf_24 : decode cX17_setOf 24 = .ok (.aload_n 0, 1) := by decide +kernel
theorem dr_cX17_setOf_25 : decode cX17_setOf 25 = .ok (.invokevirtual 48, 3) := by decide +kernel
theorem wr_10_181 : (Jvm.Cond.methodLink "SpillForgeModel" (48 : Nat) ({ cls := "SpillForgeModel$Row", name := "sets", desc := "()Z" } : Jvm.MethodName)) ∈ gw := gw_10 181 rfl rfl
theorem wr_1_39 : (Jvm.Cond.initialized "SpillForgeModel$Row") ∈ gw := gw_1 39 rfl rfl
theorem wr_10_184 : (Jvm.Cond.code ({ cls := "SpillForgeModel$Row", name := "sets", desc := "()Z" } : Jvm.MethodName) prog_18_method_2_code (1 : Nat) (Option.some Jvm.ClassFile.FieldType.boolean)) ∈ gw := gw_10 184 rfl rfl
theorem wr_10_182 : (Jvm.Cond.instanceMethod ({ cls := "SpillForgeModel$Row", name := "sets", desc := "()Z" } : Jvm.MethodName)) ∈ gw := gw_10 182 rfl rfl
theorem wr_10_183 : (Jvm.Cond.selects "SpillForgeModel$Row" ({ cls := "SpillForgeModel$Row", name := "sets", desc := "()Z" } : Jvm.MethodName) ({ cls := "SpillForgeModel$Row", name := "sets", desc := "()Z" } : Jvm.MethodName)) ∈ gw := gw_10 183 rfl rfl
theorem dr_cX17_setOf_28 : decode cX17_setOf 28 = .ok (.ifCond .eq 10, 3) := by decide +kernel
theorem dr_cX17_setOf_38 : decode cX17_setOf 38 = .ok (.iconst (-1), 1) := by decide +kernel
theorem dr_cX17_setOf_39 : decode cX17_setOf 39 = .ok (.ireturn, 1) := by decide +kernel
theorem dr_cX17_setOf_31 : decode cX17_setOf 31 = .ok (.aload_n 0, 1) := by decide +kernel
theorem dr_cX17_setOf_32 : decode cX17_setOf 32 = .ok (.getfield 52, 3) := by decide +kernel
theorem wr_9_182 : (Jvm.Cond.fieldLink "SpillForgeModel" (52 : Nat) "SpillForgeModel$Row" "t" "I") ∈ gw := gw_9 182 rfl rfl
theorem dr_cX17_setOf_35 : decode cX17_setOf 35 = .ok (.goto 4, 3) := by decide +kernel
theorem dr_cX17_setOf_4 : decode cX17_setOf 4 = .ok (.aload_n 0, 1) := by decide +kernel
theorem dr_cX17_setOf_5 : decode cX17_setOf 5 = .ok (.getfield 39, 3) := by decide +kernel
theorem wr_9_177 : (Jvm.Cond.fieldLink "SpillForgeModel" (39 : Nat) "SpillForgeModel$Row" "op" "I") ∈ gw := gw_9 177 rfl rfl
theorem dr_cX17_setOf_8 : decode cX17_setOf 8 = .ok (.bipush 23, 2) := by decide +kernel
theorem dr_cX17_setOf_10 : decode cX17_setOf 10 = .ok (.if_icmp .ne 10, 3) := by decide +kernel
theorem dr_cX17_setOf_20 : decode cX17_setOf 20 = .ok (.iconst (-1), 1) := by decide +kernel
theorem dr_cX17_setOf_21 : decode cX17_setOf 21 = .ok (.goto 18, 3) := by decide +kernel
theorem dr_cX17_setOf_13 : decode cX17_setOf 13 = .ok (.aload_n 0, 1) := by decide +kernel
theorem dr_cX17_setOf_14 : decode cX17_setOf 14 = .ok (.getfield 45, 3) := by decide +kernel
theorem wr_9_193 : (Jvm.Cond.fieldLink "SpillForgeModel" (45 : Nat) "SpillForgeModel$Row" "slot" "I") ∈ gw := gw_9 193 rfl rfl
theorem dr_cX17_setOf_17 : decode cX17_setOf 17 = .ok (.goto 22, 3) := by decide +kernel
theorem dr_cX12_ways_0 : decode cX12_ways 0 = .ok (.aload_n 0, 1) := by decide +kernel
theorem dr_cX12_ways_1 : decode cX12_ways 1 = .ok (.getfield 21, 3) := by decide +kernel
theorem wr_9_222 : (Jvm.Cond.fieldLink "SpillForgeModel$Block" (21 : Nat) "SpillForgeModel$Block" "end" "LSpillForgeModel$Row;") ∈ gw := gw_9 222 rfl rfl
theorem dr_cX12_ways_4 : decode cX12_ways 4 = .ok (.getfield 25, 3) := by decide +kernel
theorem wr_9_176 : (Jvm.Cond.fieldLink "SpillForgeModel$Block" (25 : Nat) "SpillForgeModel$Row" "op" "I") ∈ gw := gw_9 176 rfl rfl
theorem dr_cX12_ways_7 : decode cX12_ways 7 = .ok (.bipush 32, 2) := by decide +kernel
theorem dr_cX12_ways_9 : decode cX12_ways 9 = .ok (.if_icmp .ne 7, 3) := by decide +kernel
theorem dr_cX12_ways_16 : decode cX12_ways 16 = .ok (.aload_n 0, 1) := by decide +kernel
theorem dr_cX12_ways_17 : decode cX12_ways 17 = .ok (.getfield 21, 3) := by decide +kernel
theorem dr_cX12_ways_20 : decode cX12_ways 20 = .ok (.getfield 25, 3) := by decide +kernel
theorem dr_cX12_ways_23 : decode cX12_ways 23 = .ok (.bipush 30, 2) := by decide +kernel
theorem dr_cX12_ways_25 : decode cX12_ways 25 = .ok (.if_icmp .eq 14, 3) := by decide +kernel
theorem dr_cX12_ways_39 : decode cX12_ways 39 = .ok (.iconst 1, 1) := by decide +kernel
theorem dr_cX12_ways_40 : decode cX12_ways 40 = .ok (.goto 4, 3) := by decide +kernel
theorem dr_cX12_ways_44 : decode cX12_ways 44 = .ok (.ireturn, 1) := by decide +kernel
theorem dr_cX12_ways_28 : decode cX12_ways 28 = .ok (.aload_n 0, 1) := by decide +kernel
theorem dr_cX12_ways_29 : decode cX12_ways 29 = .ok (.getfield 29, 3) := by decide +kernel
theorem wr_9_226 : (Jvm.Cond.fieldLink "SpillForgeModel$Block" (29 : Nat) "SpillForgeModel$Block" "first" "I") ∈ gw := gw_9 226 rfl rfl
theorem dr_cX12_ways_32 : decode cX12_ways 32 = .ok (.aload_n 0, 1) := by decide +kernel
theorem dr_cX12_ways_33 : decode cX12_ways 33 = .ok (.getfield 32, 3) := by decide +kernel
theorem wr_9_230 : (Jvm.Cond.fieldLink "SpillForgeModel$Block" (32 : Nat) "SpillForgeModel$Block" "second" "I") ∈ gw := gw_9 230 rfl rfl
theorem dr_cX12_ways_36 : decode cX12_ways 36 = .ok (.if_icmp .ne 7, 3) := by decide +kernel
theorem dr_cX12_ways_43 : decode cX12_ways 43 = .ok (.iconst 2, 1) := by decide +kernel
theorem dr_cX12_ways_12 : decode cX12_ways 12 = .ok (.iconst 0, 1) := by decide +kernel
theorem dr_cX12_ways_13 : decode cX12_ways 13 = .ok (.goto 31, 3) := by decide +kernel
theorem dr_cX12_way_0 : decode cX12_way 0 = .ok (.iload_n 1, 1) := by decide +kernel
theorem dr_cX12_way_1 : decode cX12_way 1 = .ok (.ifCond .ne 10, 3) := by decide +kernel
theorem dr_cX12_way_11 : decode cX12_way 11 = .ok (.aload_n 0, 1) := by decide +kernel
theorem dr_cX12_way_12 : decode cX12_way 12 = .ok (.getfield 32, 3) := by decide +kernel
theorem dr_cX12_way_15 : decode cX12_way 15 = .ok (.ireturn, 1) := by decide +kernel
theorem dr_cX12_way_4 : decode cX12_way 4 = .ok (.aload_n 0, 1) := by decide +kernel
theorem dr_cX12_way_5 : decode cX12_way 5 = .ok (.getfield 29, 3) := by decide +kernel
theorem dr_cX12_way_8 : decode cX12_way 8 = .ok (.goto 7, 3) := by decide +kernel
theorem dr_cX17_has_0 : decode cX17_has 0 = .ok (.aload_n 0, 1) := by decide +kernel
theorem dr_cX17_has_1 : decode cX17_has 1 = .ok (.iload_n 1, 1) := by decide +kernel
theorem dr_cX17_has_2 : decode cX17_has 2 = .ok (.bipush 6, 2) := by decide +kernel
theorem dr_cX17_has_4 : decode cX17_has 4 = .ok (.ishr, 1) := by decide +kernel
theorem dr_cX17_has_5 : decode cX17_has 5 = .ok (.laload, 1) := by decide +kernel
theorem dr_cX17_has_6 : decode cX17_has 6 = .ok (.iload_n 1, 1) := by decide +kernel
theorem dr_cX17_has_7 : decode cX17_has 7 = .ok (.lushr, 1) := by decide +kernel
theorem dr_cX17_has_8 : decode cX17_has 8 = .ok (.lconst 1, 1) := by decide +kernel
theorem dr_cX17_has_9 : decode cX17_has 9 = .ok (.land, 1) := by decide +kernel
theorem dr_cX17_has_10 : decode cX17_has 10 = .ok (.lconst 0, 1) := by decide +kernel
theorem dr_cX17_has_11 : decode cX17_has 11 = .ok (.lcmp, 1) := by decide +kernel
theorem dr_cX17_has_12 : decode cX17_has 12 = .ok (.ifCond .eq 7, 3) := by decide +kernel
theorem dr_cX17_has_19 : decode cX17_has 19 = .ok (.iconst 0, 1) := by decide +kernel
theorem dr_cX17_has_20 : decode cX17_has 20 = .ok (.ireturn, 1) := by decide +kernel
theorem dr_cX17_has_15 : decode cX17_has 15 = .ok (.iconst 1, 1) := by decide +kernel
theorem dr_cX17_has_16 : decode cX17_has 16 = .ok (.goto 4, 3) := by decide +kernel
theorem dr_cX17_set_0 : decode cX17_set 0 = .ok (.aload_n 0, 1) := by decide +kernel
theorem dr_cX17_set_1 : decode cX17_set 1 = .ok (.iload_n 1, 1) := by decide +kernel
theorem dr_cX17_set_2 : decode cX17_set 2 = .ok (.bipush 6, 2) := by decide +kernel
theorem dr_cX17_set_4 : decode cX17_set 4 = .ok (.ishr, 1) := by decide +kernel
theorem dr_cX17_set_5 : decode cX17_set 5 = .ok (.dup2, 1) := by decide +kernel
theorem dr_cX17_set_6 : decode cX17_set 6 = .ok (.laload, 1) := by decide +kernel
theorem dr_cX17_set_7 : decode cX17_set 7 = .ok (.lconst 1, 1) := by decide +kernel
theorem dr_cX17_set_8 : decode cX17_set 8 = .ok (.iload_n 1, 1) := by decide +kernel
theorem dr_cX17_set_9 : decode cX17_set 9 = .ok (.lshl, 1) := by decide +kernel
theorem dr_cX17_set_10 : decode cX17_set 10 = .ok (.lor, 1) := by decide +kernel
theorem dr_cX17_set_11 : decode cX17_set 11 = .ok (.lastore, 1) := by decide +kernel
theorem dr_cX17_set_12 : decode cX17_set 12 = .ok (.return_, 1) := by decide +kernel
theorem dr_cX17_clear_0 : decode cX17_clear 0 = .ok (.aload_n 0, 1) := by decide +kernel
theorem dr_cX17_clear_1 : decode cX17_clear 1 = .ok (.iload_n 1, 1) := by decide +kernel
theorem dr_cX17_clear_2 : decode cX17_clear 2 = .ok (.bipush 6, 2) := by decide +kernel
theorem dr_cX17_clear_4 : decode cX17_clear 4 = .ok (.ishr, 1) := by decide +kernel
theorem dr_cX17_clear_5 : decode cX17_clear 5 = .ok (.dup2, 1) := by decide +kernel
theorem dr_cX17_clear_6 : decode cX17_clear 6 = .ok (.laload, 1) := by decide +kernel
theorem dr_cX17_clear_7 : decode cX17_clear 7 = .ok (.lconst 1, 1) := by decide +kernel
theorem dr_cX17_clear_8 : decode cX17_clear 8 = .ok (.iload_n 1, 1) := by decide +kernel
theorem dr_cX17_clear_9 : decode cX17_clear 9 = .ok (.lshl, 1) := by decide +kernel
theorem dr_cX17_clear_10 : decode cX17_clear 10 = .ok (.ldc2_w 31, 3) := by decide +kernel
theorem wr_10_188 : (Jvm.Cond.constantLong "SpillForgeModel" (31 : Nat) (-1 : Int64)) ∈ gw := gw_10 188 rfl rfl
theorem dr_cX17_clear_13 : decode cX17_clear 13 = .ok (.lxor, 1) := by decide +kernel
theorem dr_cX17_clear_14 : decode cX17_clear 14 = .ok (.land, 1) := by decide +kernel
theorem dr_cX17_clear_15 : decode cX17_clear 15 = .ok (.lastore, 1) := by decide +kernel
theorem dr_cX17_clear_16 : decode cX17_clear 16 = .ok (.return_, 1) := by decide +kernel
theorem dr_cJ13_bitCount_95d88_0 : decode cJ13_bitCount_95d88 0 = .ok (.lload_n 0, 1) := by decide +kernel
theorem dr_cJ13_bitCount_95d88_1 : decode cJ13_bitCount_95d88 1 = .ok (.lload_n 0, 1) := by decide +kernel
theorem dr_cJ13_bitCount_95d88_2 : decode cJ13_bitCount_95d88 2 = .ok (.iconst 1, 1) := by decide +kernel
theorem dr_cJ13_bitCount_95d88_3 : decode cJ13_bitCount_95d88 3 = .ok (.lushr, 1) := by decide +kernel
theorem dr_cJ13_bitCount_95d88_4 : decode cJ13_bitCount_95d88 4 = .ok (.ldc2_w 314, 3) := by decide +kernel
theorem wr_4_96 : (Jvm.Cond.constantLong "java/lang/Long" (314 : Nat) (6148914691236517205 : Int64)) ∈ gw := gw_4 96 rfl rfl
theorem dr_cJ13_bitCount_95d88_7 : decode cJ13_bitCount_95d88 7 = .ok (.land, 1) := by decide +kernel
theorem dr_cJ13_bitCount_95d88_8 : decode cJ13_bitCount_95d88 8 = .ok (.lsub, 1) := by decide +kernel
theorem dr_cJ13_bitCount_95d88_9 : decode cJ13_bitCount_95d88 9 = .ok (.lstore_n 0, 1) := by decide +kernel
theorem dr_cJ13_bitCount_95d88_10 : decode cJ13_bitCount_95d88 10 = .ok (.lload_n 0, 1) := by decide +kernel
theorem dr_cJ13_bitCount_95d88_11 : decode cJ13_bitCount_95d88 11 = .ok (.ldc2_w 316, 3) := by decide +kernel
theorem wr_4_97 : (Jvm.Cond.constantLong "java/lang/Long" (316 : Nat) (3689348814741910323 : Int64)) ∈ gw := gw_4 97 rfl rfl
theorem dr_cJ13_bitCount_95d88_14 : decode cJ13_bitCount_95d88 14 = .ok (.land, 1) := by decide +kernel
theorem dr_cJ13_bitCount_95d88_15 : decode cJ13_bitCount_95d88 15 = .ok (.lload_n 0, 1) := by decide +kernel
theorem dr_cJ13_bitCount_95d88_16 : decode cJ13_bitCount_95d88 16 = .ok (.iconst 2, 1) := by decide +kernel
theorem dr_cJ13_bitCount_95d88_17 : decode cJ13_bitCount_95d88 17 = .ok (.lushr, 1) := by decide +kernel
theorem dr_cJ13_bitCount_95d88_18 : decode cJ13_bitCount_95d88 18 = .ok (.ldc2_w 316, 3) := by decide +kernel
theorem dr_cJ13_bitCount_95d88_21 : decode cJ13_bitCount_95d88 21 = .ok (.land, 1) := by decide +kernel
theorem dr_cJ13_bitCount_95d88_22 : decode cJ13_bitCount_95d88 22 = .ok (.ladd, 1) := by decide +kernel
theorem dr_cJ13_bitCount_95d88_23 : decode cJ13_bitCount_95d88 23 = .ok (.lstore_n 0, 1) := by decide +kernel
theorem dr_cJ13_bitCount_95d88_24 : decode cJ13_bitCount_95d88 24 = .ok (.lload_n 0, 1) := by decide +kernel
theorem dr_cJ13_bitCount_95d88_25 : decode cJ13_bitCount_95d88 25 = .ok (.lload_n 0, 1) := by decide +kernel
theorem dr_cJ13_bitCount_95d88_26 : decode cJ13_bitCount_95d88 26 = .ok (.iconst 4, 1) := by decide +kernel
theorem dr_cJ13_bitCount_95d88_27 : decode cJ13_bitCount_95d88 27 = .ok (.lushr, 1) := by decide +kernel
theorem dr_cJ13_bitCount_95d88_28 : decode cJ13_bitCount_95d88 28 = .ok (.ladd, 1) := by decide +kernel
theorem dr_cJ13_bitCount_95d88_29 : decode cJ13_bitCount_95d88 29 = .ok (.ldc2_w 318, 3) := by decide +kernel
theorem wr_4_98 : (Jvm.Cond.constantLong "java/lang/Long" (318 : Nat) (1085102592571150095 : Int64)) ∈ gw := gw_4 98 rfl rfl
theorem dr_cJ13_bitCount_95d88_32 : decode cJ13_bitCount_95d88 32 = .ok (.land, 1) := by decide +kernel
theorem dr_cJ13_bitCount_95d88_33 : decode cJ13_bitCount_95d88 33 = .ok (.lstore_n 0, 1) := by decide +kernel
theorem dr_cJ13_bitCount_95d88_34 : decode cJ13_bitCount_95d88 34 = .ok (.lload_n 0, 1) := by decide +kernel
theorem dr_cJ13_bitCount_95d88_35 : decode cJ13_bitCount_95d88 35 = .ok (.lload_n 0, 1) := by decide +kernel
theorem dr_cJ13_bitCount_95d88_36 : decode cJ13_bitCount_95d88 36 = .ok (.bipush 8, 2) := by decide +kernel
theorem dr_cJ13_bitCount_95d88_38 : decode cJ13_bitCount_95d88 38 = .ok (.lushr, 1) := by decide +kernel
theorem dr_cJ13_bitCount_95d88_39 : decode cJ13_bitCount_95d88 39 = .ok (.ladd, 1) := by decide +kernel
theorem dr_cJ13_bitCount_95d88_40 : decode cJ13_bitCount_95d88 40 = .ok (.lstore_n 0, 1) := by decide +kernel
theorem dr_cJ13_bitCount_95d88_41 : decode cJ13_bitCount_95d88 41 = .ok (.lload_n 0, 1) := by decide +kernel
theorem dr_cJ13_bitCount_95d88_42 : decode cJ13_bitCount_95d88 42 = .ok (.lload_n 0, 1) := by decide +kernel
theorem dr_cJ13_bitCount_95d88_43 : decode cJ13_bitCount_95d88 43 = .ok (.bipush 16, 2) := by decide +kernel
theorem dr_cJ13_bitCount_95d88_45 : decode cJ13_bitCount_95d88 45 = .ok (.lushr, 1) := by decide +kernel
theorem dr_cJ13_bitCount_95d88_46 : decode cJ13_bitCount_95d88 46 = .ok (.ladd, 1) := by decide +kernel
theorem dr_cJ13_bitCount_95d88_47 : decode cJ13_bitCount_95d88 47 = .ok (.lstore_n 0, 1) := by decide +kernel
theorem dr_cJ13_bitCount_95d88_48 : decode cJ13_bitCount_95d88 48 = .ok (.lload_n 0, 1) := by decide +kernel
theorem dr_cJ13_bitCount_95d88_49 : decode cJ13_bitCount_95d88 49 = .ok (.lload_n 0, 1) := by decide +kernel
theorem dr_cJ13_bitCount_95d88_50 : decode cJ13_bitCount_95d88 50 = .ok (.bipush 32, 2) := by decide +kernel
theorem dr_cJ13_bitCount_95d88_52 : decode cJ13_bitCount_95d88 52 = .ok (.lushr, 1) := by decide +kernel
theorem dr_cJ13_bitCount_95d88_53 : decode cJ13_bitCount_95d88 53 = .ok (.ladd, 1) := by decide +kernel
theorem dr_cJ13_bitCount_95d88_54 : decode cJ13_bitCount_95d88 54 = .ok (.lstore_n 0, 1) := by decide +kernel
theorem dr_cJ13_bitCount_95d88_55 : decode cJ13_bitCount_95d88 55 = .ok (.lload_n 0, 1) := by decide +kernel
theorem dr_cJ13_bitCount_95d88_56 : decode cJ13_bitCount_95d88 56 = .ok (.l2i, 1) := by decide +kernel
theorem dr_cJ13_bitCount_95d88_57 : decode cJ13_bitCount_95d88 57 = .ok (.bipush 127, 2) := by decide +kernel
theorem dr_cJ13_bitCount_95d88_59 : decode cJ13_bitCount_95d88 59 = .ok (.iand, 1) := by decide +kernel
theorem dr_cJ13_bitCount_95d88_60 : decode cJ13_bitCount_95d88 60 = .ok (.ireturn, 1) := by decide +kernel
theorem dr_cX17_count_0 : decode cX17_count 0 = .ok (.iconst 0, 1) := by decide +kernel
theorem dr_cX17_count_1 : decode cX17_count 1 = .ok (.istore_n 1, 1) := by decide +kernel
theorem dr_cX17_count_2 : decode cX17_count 2 = .ok (.iconst 0, 1) := by decide +kernel
theorem dr_cX17_count_3 : decode cX17_count 3 = .ok (.istore_n 2, 1) := by decide +kernel
theorem dr_cX17_count_4 : decode cX17_count 4 = .ok (.iload_n 2, 1) := by decide +kernel
theorem dr_cX17_count_5 : decode cX17_count 5 = .ok (.aload_n 0, 1) := by decide +kernel
theorem dr_cX17_count_6 : decode cX17_count 6 = .ok (.arraylength, 1) := by decide +kernel
theorem dr_cX17_count_7 : decode cX17_count 7 = .ok (.if_icmp .ge 18, 3) := by decide +kernel
theorem dr_cX17_count_25 : decode cX17_count 25 = .ok (.iload_n 1, 1) := by decide +kernel
theorem dr_cX17_count_26 : decode cX17_count 26 = .ok (.ireturn, 1) := by decide +kernel
theorem dr_cX17_count_10 : decode cX17_count 10 = .ok (.iload_n 1, 1) := by decide +kernel
theorem dr_cX17_count_11 : decode cX17_count 11 = .ok (.aload_n 0, 1) := by decide +kernel
theorem dr_cX17_count_12 : decode cX17_count 12 = .ok (.iload_n 2, 1) := by decide +kernel
theorem dr_cX17_count_13 : decode cX17_count 13 = .ok (.laload, 1) := by decide +kernel
theorem dr_cX17_count_14 : decode cX17_count 14 = .ok (.invokestatic 33, 3) := by decide +kernel
theorem wr_11_19 : (Jvm.Cond.methodLink "SpillForgeModel" (33 : Nat) ({ cls := "java/lang/Long", name := "bitCount", desc := "(J)I" } : Jvm.MethodName)) ∈ gw := gw_11 19 rfl rfl
theorem wr_1_31 : (Jvm.Cond.initialized "java/lang/Long") ∈ gw := gw_1 31 rfl rfl
theorem wr_4_95 : (Jvm.Cond.code ({ cls := "java/lang/Long", name := "bitCount", desc := "(J)I" } : Jvm.MethodName) prog_31_method_50_code (2 : Nat) (Option.some Jvm.ClassFile.FieldType.int)) ∈ gw := gw_4 95 rfl rfl
theorem wr_4_94 : (Jvm.Cond.static ({ cls := "java/lang/Long", name := "bitCount", desc := "(J)I" } : Jvm.MethodName)) ∈ gw := gw_4 94 rfl rfl
theorem dr_cX17_count_17 : decode cX17_count 17 = .ok (.iadd, 1) := by decide +kernel
theorem dr_cX17_count_18 : decode cX17_count 18 = .ok (.istore_n 1, 1) := by decide +kernel
theorem dr_cX17_count_19 : decode cX17_count 19 = .ok (.iinc 2 1, 3) := by decide +kernel
theorem dr_cX17_count_22 : decode cX17_count 22 = .ok (.goto (-18), 3) := by decide +kernel
abbrev ky_1606_ArrayList_init : gKey := (cJx4a65c_init_da8c8, 1, "java/util/ArrayList", none, [], "<init>", fun _ _ => True)
def pp_1606_ArrayList_init (D : va_G) (I : FieldType → ClassId) (P1601 : List Nat) (F1602 : Nat → va_E) (q1603 : Nat) (p1604 : Int32) (p1605 : Int32) : Option Value → va_W → Nat → Nat → Prop := fun r w dc ds => ∃ (F1649 : Nat → va_E), r = none ∧ w = va_pl P1601 F1649 ∧ rFr [q1603] P1601 F1602 F1649 ∧ F1649 q1603 = .inr (4, [.int 0, .ref (D.2 1002 1), .int p1605]) ∧ dc ≤ 0 ∧ ds ≤ 0
set_option maxRecDepth 100000 in
set_option maxHeartbeats 4000000 in
theorem cp_1606_ArrayList_init (l : Launch) (hl0 : l.stackTraces = false) (D : va_G) (I : FieldType → ClassId) (P1601 : List Nat) (F1602 : Nat → va_E) (q1603 : Nat) (p1604 : Int32) (p1605 : Int32) (hmq1603 : q1603 ∈ P1601) (heq1603 : F1602 q1603 = .inr (4, [.int p1604, .null, .int p1605])) : CtA (gV D I) l yJx4a65c_init_da8c8 cJx4a65c_init_da8c8 1 none 3 52 0 0 [.ref q1603] (va_pl P1601 F1602) (pp_1606_ArrayList_init D I P1601 F1602 q1603 p1604 p1605) gNA := by
  refine CtA_ofF hl0 (by decide +kernel) (Nat.le_of_ble_eq_true rfl) ?_
  have bp1604 := gB_any p1604
  have bp1605 := gB_any p1605
  refine G_aload_n 0 dr_cJx4a65c_init_da8c8_0 rfl ?_
  refine Gw_callI (As := []) (gV_ok D I) (cp_1612_AbstractList_init l hl0 D I P1601 F1602 q1603 p1604 p1605 hmq1603 heq1603) dr_cJx4a65c_init_da8c8_1 ⟨wr_7_8, wr_1_17, wr_7_10, by decide, rfl, (Nat.le_of_ble_eq_true rfl), (Nat.le_of_ble_eq_true rfl)⟩ wr_7_9 rfl (show 0 + 0 ≤ 0 by first | omega | decide) (show 0 + 0 ≤ 0 by first | omega | decide) (Nat.le_of_ble_eq_true rfl) (fun r1634 w1635 dc1631 ds1632 hp1633 => ?_)
  obtain ⟨F1636, rfl, rfl, hfr1638, he1639, hdc, hds⟩ := hp1633
  have hfr1640 : rFr [q1603] P1601 F1602 F1636 := rFr_call (rSub_rf (P := P1601)) (rFr_rf (W := []) (P := P1601) (F := F1602)) hfr1638 (fun b hb hn => ⟨nm_n, (nm_c (fun e => hn (e ▸ List.mem_cons_self)) nm_n)⟩)
  change G _ _ _ _ _ _ _ _ _ _ _
  refine G_widen (cs' := 0) (sl' := 0) (by omega) (by omega) ?_
  refine G_aload_n 0 dr_cJx4a65c_init_da8c8_4 rfl ?_
  refine G_gets dr_cJx4a65c_init_da8c8_5 wr_7_15 gr_de (fun x1642 hx1641 => ?_)
  subst hx1641
  refine Gp_put 1 hmq1603 he1639 dr_cJx4a65c_init_da8c8_8 (gk_Jx4a65c D I) (Nat.le_of_ble_eq_true rfl) wr_7_17 rfl rfl rfl (Nat.le_of_ble_eq_true rfl) (fun F1643 e1644 n1645 => ?_)
  have he1646 : F1643 q1603 = .inr (4, [.int 0, .ref (D.2 1002 1), .int p1605]) := e1644
  have hfr1647 : rFr [q1603] P1601 F1602 F1643 := rFr_put' List.mem_cons_self hfr1640 n1645
  exact G_vretA dr_cJx4a65c_init_da8c8_11 rfl (Nat.le_of_ble_eq_true rfl) (Nat.le_of_ble_eq_true rfl) ⟨F1643, rfl, rfl, hfr1647, he1646, (Nat.le_of_ble_eq_true rfl), (Nat.le_of_ble_eq_true rfl)⟩
/- tr_RRow_sets: result -/
def tr_RRow_sets (a0_op : Int32) (o1 : Int32) : Prop := ∀ R : (Int32) → Prop,
  (21 < a0_op.toInt → R (0 : Int32)) →
  (a0_op.toInt ≤ 21 → R (1 : Int32)) →
  R o1
abbrev ky_1660_Row_sets : gKey := (cX15_sets, 1, "SpillForgeModel$Row", (some FieldType.boolean), [], "sets", fun _ _ => True)
def pp_1660_Row_sets (D : va_G) (I : FieldType → ClassId) (P1650 : List Nat) (F1651 : Nat → va_E) (q1652 : Nat) (p1653 : Int32) (p1654 : Int32) (p1655 : Int32) (p1656 : Int32) (p1657 : Int32) (p1658 : Int32) (p1659 : Int32) : Option Value → va_W → Nat → Nat → Prop := fun r w dc ds => ∃ (o1664 : Int32), r = some (.int o1664) ∧ w = va_pl P1650 F1651 ∧ dc ≤ 0 ∧ ds ≤ 0 ∧ gB o1664 0 1 ∧ tr_RRow_sets p1653 o1664
set_option maxRecDepth 100000 in
set_option maxHeartbeats 4000000 in
theorem cp_1660_Row_sets (l : Launch) (hl0 : l.stackTraces = false) (D : va_G) (I : FieldType → ClassId) (P1650 : List Nat) (F1651 : Nat → va_E) (q1652 : Nat) (p1653 : Int32) (p1654 : Int32) (p1655 : Int32) (p1656 : Int32) (p1657 : Int32) (p1658 : Int32) (p1659 : Int32) (hmq1652 : q1652 ∈ P1650) (heq1652 : F1651 q1652 = .inr (20, [.int p1653, .int p1654, .int p1655, .int p1656, .int p1657, .int p1658, .int p1659])) (bp1653 : gB p1653 0 32) (bp1654 : gB p1654 0 1999) (bp1657 : gB p1657 0 1999) (bp1658 : gB p1658 0 1) (bp1659 : gB p1659 0 1) : CtA (gV D I) l yX15_sets cX15_sets 1 (some FieldType.boolean) 0 0 0 0 [.ref q1652] (va_pl P1650 F1651) (pp_1660_Row_sets D I P1650 F1651 q1652 p1653 p1654 p1655 p1656 p1657 p1658 p1659) gNA := by
  refine CtA_of hl0 (by decide) (Nat.le_of_ble_eq_true rfl) ?_
  have bp1655 := gB_any p1655
  have bp1656 := gB_any p1656
  refine G_aload_n 0 dr_cX15_sets_0 rfl ?_
  refine Gp_get 0 hmq1652 heq1652 dr_cX15_sets_1 (gk_X15 D I) (Nat.le_of_ble_eq_true rfl) wr_9_175 rfl ?_
  refine G_bipush 21 dr_cX15_sets_4 (by decide +kernel) ?_
  refine G_icmp_gt 13 dr_cX15_sets_6 (by decide +kernel) (fun hc1661 => ?_) (fun hc1661 => ?_)
  · have r1662 : 21 < p1653.toInt := gj_ltL hc1661 (show Int32.toInt 21 = 21 by decide)
    have bp1653' : gB p1653 22 32 := ⟨by omega, by omega⟩
    refine G_iconst 0 dr_cX15_sets_13 (by decide +kernel) ?_
    exact G_zretA FieldType.boolean dr_cX15_sets_14 rfl rfl (Nat.le_of_ble_eq_true rfl) (Nat.le_of_ble_eq_true rfl) ⟨0, rfl, rfl, (Nat.le_of_ble_eq_true rfl), (Nat.le_of_ble_eq_true rfl), (gB_w (gBl (show Int32.toInt 0 = 0 by decide)) (by decide) (by decide)), (fun R c1 c2 => c1 r1662)⟩
  · have r1663 : p1653.toInt ≤ 21 := gj_nltL hc1661 (show Int32.toInt 21 = 21 by decide)
    have bp1653' : gB p1653 0 21 := ⟨by omega, by omega⟩
    refine G_iconst 1 dr_cX15_sets_9 (by decide +kernel) ?_
    refine G_goto 14 dr_cX15_sets_10 (by decide +kernel) ?_
    exact G_zretA FieldType.boolean dr_cX15_sets_14 rfl rfl (Nat.le_of_ble_eq_true rfl) (Nat.le_of_ble_eq_true rfl) ⟨1, rfl, rfl, (Nat.le_of_ble_eq_true rfl), (Nat.le_of_ble_eq_true rfl), (gB_w (gBl (show Int32.toInt 1 = 1 by decide)) (by decide) (by decide)), (fun R c1 c2 => c2 r1663)⟩
/- tr_RRow_usesA: result -/
def tr_RRow_usesA (a0_op : Int32) (a0_regA : Int32) (o1 : Int32) : Prop := ∀ R : (Int32) → Prop,
  (a0_op.toInt = 20 → R (0 : Int32)) →
  (a0_op.toInt ≠ 20 → a0_op.toInt = 21 → R (0 : Int32)) →
  (a0_op.toInt ≠ 20 → a0_op.toInt ≠ 21 → a0_op.toInt = 30 → R (0 : Int32)) →
  (a0_op.toInt ≠ 20 → a0_op.toInt ≠ 21 → a0_op.toInt ≠ 30 → a0_regA.toInt = 0 → R (0 : Int32)) →
  (a0_op.toInt ≠ 20 → a0_op.toInt ≠ 21 → a0_op.toInt ≠ 30 → a0_regA.toInt ≠ 0 → R (1 : Int32)) →
  R o1
abbrev ky_1675_Row_usesA : gKey := (cX15_usesA, 1, "SpillForgeModel$Row", (some FieldType.boolean), [], "usesA", fun _ _ => True)
def pp_1675_Row_usesA (D : va_G) (I : FieldType → ClassId) (P1665 : List Nat) (F1666 : Nat → va_E) (q1667 : Nat) (p1668 : Int32) (p1669 : Int32) (p1670 : Int32) (p1671 : Int32) (p1672 : Int32) (p1673 : Int32) (p1674 : Int32) : Option Value → va_W → Nat → Nat → Prop := fun r w dc ds => ∃ (o1688 : Int32), r = some (.int o1688) ∧ w = va_pl P1665 F1666 ∧ dc ≤ 0 ∧ ds ≤ 0 ∧ gB o1688 0 1 ∧ (o1688.toInt = 0 ∨ p1673.toInt = 1) ∧ tr_RRow_usesA p1668 p1673 o1688
set_option maxRecDepth 100000 in
set_option maxHeartbeats 4000000 in
theorem cp_1675_Row_usesA (l : Launch) (hl0 : l.stackTraces = false) (D : va_G) (I : FieldType → ClassId) (P1665 : List Nat) (F1666 : Nat → va_E) (q1667 : Nat) (p1668 : Int32) (p1669 : Int32) (p1670 : Int32) (p1671 : Int32) (p1672 : Int32) (p1673 : Int32) (p1674 : Int32) (hmq1667 : q1667 ∈ P1665) (heq1667 : F1666 q1667 = .inr (20, [.int p1668, .int p1669, .int p1670, .int p1671, .int p1672, .int p1673, .int p1674])) (bp1668 : gB p1668 0 32) (bp1669 : gB p1669 0 1999) (bp1672 : gB p1672 0 1999) (bp1673 : gB p1673 0 1) (bp1674 : gB p1674 0 1) : CtA (gV D I) l yX15_usesA cX15_usesA 1 (some FieldType.boolean) 0 0 0 0 [.ref q1667] (va_pl P1665 F1666) (pp_1675_Row_usesA D I P1665 F1666 q1667 p1668 p1669 p1670 p1671 p1672 p1673 p1674) gNA := by
  refine CtA_of hl0 (by decide) (Nat.le_of_ble_eq_true rfl) ?_
  have bp1670 := gB_any p1670
  have bp1671 := gB_any p1671
  refine G_aload_n 0 dr_cX15_usesA_0 rfl ?_
  refine Gp_get 0 hmq1667 heq1667 dr_cX15_usesA_1 (gk_X15 D I) (Nat.le_of_ble_eq_true rfl) wr_9_175 rfl ?_
  refine G_bipush 20 dr_cX15_usesA_4 (by decide +kernel) ?_
  refine G_icmp_eq 38 dr_cX15_usesA_6 (by decide +kernel) (fun hc1676 => ?_) (fun hc1676 => ?_)
  · have r1677 : p1668.toInt = 20 := gj_eq hc1676 (show Int32.toInt 20 = 20 by decide)
    have bp1668' : gB p1668 20 20 := ⟨by omega, by omega⟩
    refine G_iconst 0 dr_cX15_usesA_38 (by decide +kernel) ?_
    exact G_zretA FieldType.boolean dr_cX15_usesA_39 rfl rfl (Nat.le_of_ble_eq_true rfl) (Nat.le_of_ble_eq_true rfl) ⟨0, rfl, rfl, (Nat.le_of_ble_eq_true rfl), (Nat.le_of_ble_eq_true rfl), (gB_w (gBl (show Int32.toInt 0 = 0 by decide)) (by decide) (by decide)), (by have qa0 : Int32.toInt 0 = 0 := (by decide); omega), (fun R c1 c2 c3 c4 c5 => c1 r1677)⟩
  · have r1678 : p1668.toInt ≠ 20 := gj_neq hc1676 (show Int32.toInt 20 = 20 by decide)
    refine G_aload_n 0 dr_cX15_usesA_9 rfl ?_
    refine Gp_get 0 hmq1667 heq1667 dr_cX15_usesA_10 (gk_X15 D I) (Nat.le_of_ble_eq_true rfl) wr_9_175 rfl ?_
    refine G_bipush 21 dr_cX15_usesA_13 (by decide +kernel) ?_
    refine G_icmp_eq 38 dr_cX15_usesA_15 (by decide +kernel) (fun hc1679 => ?_) (fun hc1679 => ?_)
    · have r1680 : p1668.toInt = 21 := gj_eq hc1679 (show Int32.toInt 21 = 21 by decide)
      have bp1668' : gB p1668 21 21 := ⟨by omega, by omega⟩
      refine G_iconst 0 dr_cX15_usesA_38 (by decide +kernel) ?_
      exact G_zretA FieldType.boolean dr_cX15_usesA_39 rfl rfl (Nat.le_of_ble_eq_true rfl) (Nat.le_of_ble_eq_true rfl) ⟨0, rfl, rfl, (Nat.le_of_ble_eq_true rfl), (Nat.le_of_ble_eq_true rfl), (gB_w (gBl (show Int32.toInt 0 = 0 by decide)) (by decide) (by decide)), (by have qa0 : Int32.toInt 0 = 0 := (by decide); omega), (fun R c1 c2 c3 c4 c5 => c2 r1678 r1680)⟩
    · have r1681 : p1668.toInt ≠ 21 := gj_neq hc1679 (show Int32.toInt 21 = 21 by decide)
      refine G_aload_n 0 dr_cX15_usesA_18 rfl ?_
      refine Gp_get 0 hmq1667 heq1667 dr_cX15_usesA_19 (gk_X15 D I) (Nat.le_of_ble_eq_true rfl) wr_9_175 rfl ?_
      refine G_bipush 30 dr_cX15_usesA_22 (by decide +kernel) ?_
      refine G_icmp_eq 38 dr_cX15_usesA_24 (by decide +kernel) (fun hc1682 => ?_) (fun hc1682 => ?_)
      · have r1683 : p1668.toInt = 30 := gj_eq hc1682 (show Int32.toInt 30 = 30 by decide)
        have bp1668' : gB p1668 30 30 := ⟨by omega, by omega⟩
        refine G_iconst 0 dr_cX15_usesA_38 (by decide +kernel) ?_
        exact G_zretA FieldType.boolean dr_cX15_usesA_39 rfl rfl (Nat.le_of_ble_eq_true rfl) (Nat.le_of_ble_eq_true rfl) ⟨0, rfl, rfl, (Nat.le_of_ble_eq_true rfl), (Nat.le_of_ble_eq_true rfl), (gB_w (gBl (show Int32.toInt 0 = 0 by decide)) (by decide) (by decide)), (by have qa0 : Int32.toInt 0 = 0 := (by decide); omega), (fun R c1 c2 c3 c4 c5 => c3 r1678 r1681 r1683)⟩
      · have r1684 : p1668.toInt ≠ 30 := gj_neq hc1682 (show Int32.toInt 30 = 30 by decide)
        refine G_aload_n 0 dr_cX15_usesA_27 rfl ?_
        refine Gp_get 5 hmq1667 heq1667 dr_cX15_usesA_28 (gk_X15 D I) (Nat.le_of_ble_eq_true rfl) wr_9_195 rfl ?_
        refine G_if_eq 38 dr_cX15_usesA_31 (by decide +kernel) (fun hc1685 => ?_) (fun hc1685 => ?_)
        · have r1686 : p1673.toInt = 0 := gj_eq hc1685 (show Int32.toInt 0 = 0 by decide)
          have bp1673' : gB p1673 0 0 := ⟨by omega, by omega⟩
          refine G_iconst 0 dr_cX15_usesA_38 (by decide +kernel) ?_
          exact G_zretA FieldType.boolean dr_cX15_usesA_39 rfl rfl (Nat.le_of_ble_eq_true rfl) (Nat.le_of_ble_eq_true rfl) ⟨0, rfl, rfl, (Nat.le_of_ble_eq_true rfl), (Nat.le_of_ble_eq_true rfl), (gB_w (gBl (show Int32.toInt 0 = 0 by decide)) (by decide) (by decide)), (by have qa0 : Int32.toInt 0 = 0 := (by decide); omega), (fun R c1 c2 c3 c4 c5 => c4 r1678 r1681 r1684 r1686)⟩
        · have r1687 : p1673.toInt ≠ 0 := gj_neq hc1685 (show Int32.toInt 0 = 0 by decide)
          have bp1673' : gB p1673 1 1 := ⟨by omega, by omega⟩
          refine G_iconst 1 dr_cX15_usesA_34 (by decide +kernel) ?_
          refine G_goto 39 dr_cX15_usesA_35 (by decide +kernel) ?_
          exact G_zretA FieldType.boolean dr_cX15_usesA_39 rfl rfl (Nat.le_of_ble_eq_true rfl) (Nat.le_of_ble_eq_true rfl) ⟨1, rfl, rfl, (Nat.le_of_ble_eq_true rfl), (Nat.le_of_ble_eq_true rfl), (gB_w (gBl (show Int32.toInt 1 = 1 by decide)) (by decide) (by decide)), (by have qa0 : Int32.toInt 1 = 1 := (by decide); omega), (fun R c1 c2 c3 c4 c5 => c5 r1678 r1681 r1684 r1687)⟩
/- tr_RRow_usesB: result -/
def tr_RRow_usesB (a0_op : Int32) (a0_regB : Int32) (o1 : Int32) : Prop := ∀ R : (Int32) → Prop,
  (a0_op.toInt ≤ 0 → R (0 : Int32)) →
  (0 < a0_op.toInt → 20 ≤ a0_op.toInt → R (0 : Int32)) →
  (0 < a0_op.toInt → a0_op.toInt < 20 → a0_regB.toInt = 0 → R (0 : Int32)) →
  (0 < a0_op.toInt → a0_op.toInt < 20 → a0_regB.toInt ≠ 0 → R (1 : Int32)) →
  R o1
abbrev ky_1699_Row_usesB : gKey := (cX15_usesB, 1, "SpillForgeModel$Row", (some FieldType.boolean), [], "usesB", fun _ _ => True)
def pp_1699_Row_usesB (D : va_G) (I : FieldType → ClassId) (P1689 : List Nat) (F1690 : Nat → va_E) (q1691 : Nat) (p1692 : Int32) (p1693 : Int32) (p1694 : Int32) (p1695 : Int32) (p1696 : Int32) (p1697 : Int32) (p1698 : Int32) : Option Value → va_W → Nat → Nat → Prop := fun r w dc ds => ∃ (o1709 : Int32), r = some (.int o1709) ∧ w = va_pl P1689 F1690 ∧ dc ≤ 0 ∧ ds ≤ 0 ∧ gB o1709 0 1 ∧ (o1709.toInt = 0 ∨ p1698.toInt = 1) ∧ tr_RRow_usesB p1692 p1698 o1709
set_option maxRecDepth 100000 in
set_option maxHeartbeats 4000000 in
theorem cp_1699_Row_usesB (l : Launch) (hl0 : l.stackTraces = false) (D : va_G) (I : FieldType → ClassId) (P1689 : List Nat) (F1690 : Nat → va_E) (q1691 : Nat) (p1692 : Int32) (p1693 : Int32) (p1694 : Int32) (p1695 : Int32) (p1696 : Int32) (p1697 : Int32) (p1698 : Int32) (hmq1691 : q1691 ∈ P1689) (heq1691 : F1690 q1691 = .inr (20, [.int p1692, .int p1693, .int p1694, .int p1695, .int p1696, .int p1697, .int p1698])) (bp1692 : gB p1692 0 32) (bp1693 : gB p1693 0 1999) (bp1696 : gB p1696 0 1999) (bp1697 : gB p1697 0 1) (bp1698 : gB p1698 0 1) : CtA (gV D I) l yX15_usesB cX15_usesB 1 (some FieldType.boolean) 0 0 0 0 [.ref q1691] (va_pl P1689 F1690) (pp_1699_Row_usesB D I P1689 F1690 q1691 p1692 p1693 p1694 p1695 p1696 p1697 p1698) gNA := by
  refine CtA_of hl0 (by decide) (Nat.le_of_ble_eq_true rfl) ?_
  have bp1694 := gB_any p1694
  have bp1695 := gB_any p1695
  refine G_aload_n 0 dr_cX15_usesB_0 rfl ?_
  refine Gp_get 0 hmq1691 heq1691 dr_cX15_usesB_1 (gk_X15 D I) (Nat.le_of_ble_eq_true rfl) wr_9_175 rfl ?_
  refine G_if_le 27 dr_cX15_usesB_4 (by decide +kernel) (fun hc1700 => ?_) (fun hc1700 => ?_)
  · have r1701 : p1692.toInt ≤ 0 := gj_le hc1700 (show Int32.toInt 0 = 0 by decide)
    have bp1692' : gB p1692 0 0 := ⟨by omega, by omega⟩
    refine G_iconst 0 dr_cX15_usesB_27 (by decide +kernel) ?_
    exact G_zretA FieldType.boolean dr_cX15_usesB_28 rfl rfl (Nat.le_of_ble_eq_true rfl) (Nat.le_of_ble_eq_true rfl) ⟨0, rfl, rfl, (Nat.le_of_ble_eq_true rfl), (Nat.le_of_ble_eq_true rfl), (gB_w (gBl (show Int32.toInt 0 = 0 by decide)) (by decide) (by decide)), (by have qa0 : Int32.toInt 0 = 0 := (by decide); omega), (fun R c1 c2 c3 c4 => c1 r1701)⟩
  · have r1702 : 0 < p1692.toInt := gj_nle hc1700 (show Int32.toInt 0 = 0 by decide)
    have bp1692' : gB p1692 1 32 := ⟨by omega, by omega⟩
    refine G_aload_n 0 dr_cX15_usesB_7 rfl ?_
    refine Gp_get 0 hmq1691 heq1691 dr_cX15_usesB_8 (gk_X15 D I) (Nat.le_of_ble_eq_true rfl) wr_9_175 rfl ?_
    refine G_bipush 20 dr_cX15_usesB_11 (by decide +kernel) ?_
    refine G_icmp_ge 27 dr_cX15_usesB_13 (by decide +kernel) (fun hc1703 => ?_) (fun hc1703 => ?_)
    · have r1704 : 20 ≤ p1692.toInt := gj_leL hc1703 (show Int32.toInt 20 = 20 by decide)
      have bp1692'' : gB p1692 20 32 := ⟨by omega, by omega⟩
      refine G_iconst 0 dr_cX15_usesB_27 (by decide +kernel) ?_
      exact G_zretA FieldType.boolean dr_cX15_usesB_28 rfl rfl (Nat.le_of_ble_eq_true rfl) (Nat.le_of_ble_eq_true rfl) ⟨0, rfl, rfl, (Nat.le_of_ble_eq_true rfl), (Nat.le_of_ble_eq_true rfl), (gB_w (gBl (show Int32.toInt 0 = 0 by decide)) (by decide) (by decide)), (by have qa0 : Int32.toInt 0 = 0 := (by decide); omega), (fun R c1 c2 c3 c4 => c2 r1702 r1704)⟩
    · have r1705 : p1692.toInt < 20 := gj_nleL hc1703 (show Int32.toInt 20 = 20 by decide)
      have bp1692'' : gB p1692 1 19 := ⟨by omega, by omega⟩
      refine G_aload_n 0 dr_cX15_usesB_16 rfl ?_
      refine Gp_get 6 hmq1691 heq1691 dr_cX15_usesB_17 (gk_X15 D I) (Nat.le_of_ble_eq_true rfl) wr_9_199 rfl ?_
      refine G_if_eq 27 dr_cX15_usesB_20 (by decide +kernel) (fun hc1706 => ?_) (fun hc1706 => ?_)
      · have r1707 : p1698.toInt = 0 := gj_eq hc1706 (show Int32.toInt 0 = 0 by decide)
        have bp1698' : gB p1698 0 0 := ⟨by omega, by omega⟩
        refine G_iconst 0 dr_cX15_usesB_27 (by decide +kernel) ?_
        exact G_zretA FieldType.boolean dr_cX15_usesB_28 rfl rfl (Nat.le_of_ble_eq_true rfl) (Nat.le_of_ble_eq_true rfl) ⟨0, rfl, rfl, (Nat.le_of_ble_eq_true rfl), (Nat.le_of_ble_eq_true rfl), (gB_w (gBl (show Int32.toInt 0 = 0 by decide)) (by decide) (by decide)), (by have qa0 : Int32.toInt 0 = 0 := (by decide); omega), (fun R c1 c2 c3 c4 => c3 r1702 r1705 r1707)⟩
      · have r1708 : p1698.toInt ≠ 0 := gj_neq hc1706 (show Int32.toInt 0 = 0 by decide)
        have bp1698' : gB p1698 1 1 := ⟨by omega, by omega⟩
        refine G_iconst 1 dr_cX15_usesB_23 (by decide +kernel) ?_
        refine G_goto 28 dr_cX15_usesB_24 (by decide +kernel) ?_
        exact G_zretA FieldType.boolean dr_cX15_usesB_28 rfl rfl (Nat.le_of_ble_eq_true rfl) (Nat.le_of_ble_eq_true rfl) ⟨1, rfl, rfl, (Nat.le_of_ble_eq_true rfl), (Nat.le_of_ble_eq_true rfl), (gB_w (gBl (show Int32.toInt 1 = 1 by decide)) (by decide) (by decide)), (by have qa0 : Int32.toInt 1 = 1 := (by decide); omega), (fun R c1 c2 c3 c4 => c4 r1702 r1705 r1708)⟩
abbrev ky_1728_Row_put : gKey := (cX15_put, 2, "SpillForgeModel$Row", none, [], "put", fun _ _ => True)
def pp_1728_Row_put (D : va_G) (I : FieldType → ClassId) (P1710 : List Nat) (F1711 : Nat → va_E) (q1712 : Nat) (q1713 : Nat) (p1714 : Int32) (p1715 : Int32) (p1716 : Int32) (p1717 : Int32) (p1718 : Int32) (p1719 : Int32) (p1720 : Int32) (p1721 : Int32) (p1722 : Int32) (p1723 : Int32) (p1724 : Int32) (p1725 : Int32) (p1726 : Int32) (p1727 : Int32) : Option Value → va_W → Nat → Nat → Prop := fun r w dc ds => ∃ (F1772 : Nat → va_E), r = none ∧ w = va_pl P1710 F1772 ∧ rFr [q1712] P1710 F1711 F1772 ∧ F1772 q1712 = .inr (20, [.int p1721, .int p1722, .int p1723, .int p1724, .int p1725, .int p1726, .int p1727]) ∧ F1772 q1713 = .inr (20, [.int p1721, .int p1722, .int p1723, .int p1724, .int p1725, .int p1726, .int p1727]) ∧ dc ≤ 0 ∧ ds ≤ 0
set_option maxRecDepth 100000 in
set_option maxHeartbeats 4000000 in
theorem cp_1728_Row_put (l : Launch) (hl0 : l.stackTraces = false) (D : va_G) (I : FieldType → ClassId) (P1710 : List Nat) (F1711 : Nat → va_E) (q1712 : Nat) (q1713 : Nat) (p1714 : Int32) (p1715 : Int32) (p1716 : Int32) (p1717 : Int32) (p1718 : Int32) (p1719 : Int32) (p1720 : Int32) (p1721 : Int32) (p1722 : Int32) (p1723 : Int32) (p1724 : Int32) (p1725 : Int32) (p1726 : Int32) (p1727 : Int32) (hmq1712 : q1712 ∈ P1710) (hmq1713 : q1713 ∈ P1710) (heq1712 : F1711 q1712 = .inr (20, [.int p1714, .int p1715, .int p1716, .int p1717, .int p1718, .int p1719, .int p1720])) (heq1713 : F1711 q1713 = .inr (20, [.int p1721, .int p1722, .int p1723, .int p1724, .int p1725, .int p1726, .int p1727])) (hneq1712q1713 : q1712 ≠ q1713) (bp1714 : gB p1714 0 32) (bp1715 : gB p1715 0 1999) (bp1718 : gB p1718 0 1999) (bp1719 : gB p1719 0 1) (bp1720 : gB p1720 0 1) (bp1721 : gB p1721 0 32) (bp1722 : gB p1722 0 1999) (bp1725 : gB p1725 0 1999) (bp1726 : gB p1726 0 1) (bp1727 : gB p1727 0 1) : CtA (gV D I) l yX15_put cX15_put 2 none 0 0 0 0 [.ref q1712, .ref q1713] (va_pl P1710 F1711) (pp_1728_Row_put D I P1710 F1711 q1712 q1713 p1714 p1715 p1716 p1717 p1718 p1719 p1720 p1721 p1722 p1723 p1724 p1725 p1726 p1727) gNA := by
  refine CtA_of hl0 (by decide) (Nat.le_of_ble_eq_true rfl) ?_
  have bp1716 := gB_any p1716
  have bp1717 := gB_any p1717
  have bp1723 := gB_any p1723
  have bp1724 := gB_any p1724
  refine G_aload_n 0 dr_cX15_put_0 rfl ?_
  refine G_aload_n 1 dr_cX15_put_1 rfl ?_
  refine Gp_get 0 hmq1713 heq1713 dr_cX15_put_2 (gk_X15 D I) (Nat.le_of_ble_eq_true rfl) wr_9_175 rfl ?_
  refine Gp_put 0 hmq1712 heq1712 dr_cX15_put_5 (gk_X15 D I) (Nat.le_of_ble_eq_true rfl) wr_9_175 rfl rfl rfl (Nat.le_of_ble_eq_true rfl) (fun F1729 e1730 n1731 => ?_)
  have he1732 : F1729 q1713 = .inr (20, [.int p1721, .int p1722, .int p1723, .int p1724, .int p1725, .int p1726, .int p1727]) := (n1731 q1713 (Ne.symm hneq1712q1713)).trans heq1713
  have he1733 : F1729 q1712 = .inr (20, [.int p1721, .int p1715, .int p1716, .int p1717, .int p1718, .int p1719, .int p1720]) := e1730
  have hfr1734 : rFr [q1712] P1710 F1711 F1729 := rFr_put (rFr_rf (W := []) (P := P1710) (F := F1711)) n1731
  refine G_aload_n 0 dr_cX15_put_8 rfl ?_
  refine G_aload_n 1 dr_cX15_put_9 rfl ?_
  refine Gp_get 1 hmq1713 he1732 dr_cX15_put_10 (gk_X15 D I) (Nat.le_of_ble_eq_true rfl) wr_9_181 rfl ?_
  refine Gp_put 1 hmq1712 he1733 dr_cX15_put_13 (gk_X15 D I) (Nat.le_of_ble_eq_true rfl) wr_9_181 rfl rfl rfl (Nat.le_of_ble_eq_true rfl) (fun F1735 e1736 n1737 => ?_)
  have he1738 : F1735 q1713 = .inr (20, [.int p1721, .int p1722, .int p1723, .int p1724, .int p1725, .int p1726, .int p1727]) := (n1737 q1713 (Ne.symm hneq1712q1713)).trans he1732
  have he1739 : F1735 q1712 = .inr (20, [.int p1721, .int p1722, .int p1716, .int p1717, .int p1718, .int p1719, .int p1720]) := e1736
  have hfr1740 : rFr [q1712] P1710 F1711 F1735 := rFr_put' List.mem_cons_self hfr1734 n1737
  refine G_aload_n 0 dr_cX15_put_16 rfl ?_
  refine G_aload_n 1 dr_cX15_put_17 rfl ?_
  refine Gp_get 2 hmq1713 he1738 dr_cX15_put_18 (gk_X15 D I) (Nat.le_of_ble_eq_true rfl) wr_9_185 rfl ?_
  refine Gp_put 2 hmq1712 he1739 dr_cX15_put_21 (gk_X15 D I) (Nat.le_of_ble_eq_true rfl) wr_9_185 rfl rfl rfl (Nat.le_of_ble_eq_true rfl) (fun F1741 e1742 n1743 => ?_)
  have he1744 : F1741 q1713 = .inr (20, [.int p1721, .int p1722, .int p1723, .int p1724, .int p1725, .int p1726, .int p1727]) := (n1743 q1713 (Ne.symm hneq1712q1713)).trans he1738
  have he1745 : F1741 q1712 = .inr (20, [.int p1721, .int p1722, .int p1723, .int p1717, .int p1718, .int p1719, .int p1720]) := e1742
  have hfr1746 : rFr [q1712] P1710 F1711 F1741 := rFr_put' List.mem_cons_self hfr1740 n1743
  refine G_aload_n 0 dr_cX15_put_24 rfl ?_
  refine G_aload_n 1 dr_cX15_put_25 rfl ?_
  refine Gp_get 3 hmq1713 he1744 dr_cX15_put_26 (gk_X15 D I) (Nat.le_of_ble_eq_true rfl) wr_9_189 rfl ?_
  refine Gp_put 3 hmq1712 he1745 dr_cX15_put_29 (gk_X15 D I) (Nat.le_of_ble_eq_true rfl) wr_9_189 rfl rfl rfl (Nat.le_of_ble_eq_true rfl) (fun F1747 e1748 n1749 => ?_)
  have he1750 : F1747 q1713 = .inr (20, [.int p1721, .int p1722, .int p1723, .int p1724, .int p1725, .int p1726, .int p1727]) := (n1749 q1713 (Ne.symm hneq1712q1713)).trans he1744
  have he1751 : F1747 q1712 = .inr (20, [.int p1721, .int p1722, .int p1723, .int p1724, .int p1718, .int p1719, .int p1720]) := e1748
  have hfr1752 : rFr [q1712] P1710 F1711 F1747 := rFr_put' List.mem_cons_self hfr1746 n1749
  refine G_aload_n 0 dr_cX15_put_32 rfl ?_
  refine G_aload_n 1 dr_cX15_put_33 rfl ?_
  refine Gp_get 5 hmq1713 he1750 dr_cX15_put_34 (gk_X15 D I) (Nat.le_of_ble_eq_true rfl) wr_9_195 rfl ?_
  refine Gp_put 5 hmq1712 he1751 dr_cX15_put_37 (gk_X15 D I) (Nat.le_of_ble_eq_true rfl) wr_9_195 rfl (gN_bool bp1726) (gT_bool bp1726) (Nat.le_of_ble_eq_true rfl) (fun F1753 e1754 n1755 => ?_)
  have he1756 : F1753 q1713 = .inr (20, [.int p1721, .int p1722, .int p1723, .int p1724, .int p1725, .int p1726, .int p1727]) := (n1755 q1713 (Ne.symm hneq1712q1713)).trans he1750
  have he1757 : F1753 q1712 = .inr (20, [.int p1721, .int p1722, .int p1723, .int p1724, .int p1718, .int p1726, .int p1720]) := e1754
  have hfr1758 : rFr [q1712] P1710 F1711 F1753 := rFr_put' List.mem_cons_self hfr1752 n1755
  refine G_aload_n 0 dr_cX15_put_40 rfl ?_
  refine G_aload_n 1 dr_cX15_put_41 rfl ?_
  refine Gp_get 6 hmq1713 he1756 dr_cX15_put_42 (gk_X15 D I) (Nat.le_of_ble_eq_true rfl) wr_9_199 rfl ?_
  refine Gp_put 6 hmq1712 he1757 dr_cX15_put_45 (gk_X15 D I) (Nat.le_of_ble_eq_true rfl) wr_9_199 rfl (gN_bool bp1727) (gT_bool bp1727) (Nat.le_of_ble_eq_true rfl) (fun F1759 e1760 n1761 => ?_)
  have he1762 : F1759 q1713 = .inr (20, [.int p1721, .int p1722, .int p1723, .int p1724, .int p1725, .int p1726, .int p1727]) := (n1761 q1713 (Ne.symm hneq1712q1713)).trans he1756
  have he1763 : F1759 q1712 = .inr (20, [.int p1721, .int p1722, .int p1723, .int p1724, .int p1718, .int p1726, .int p1727]) := e1760
  have hfr1764 : rFr [q1712] P1710 F1711 F1759 := rFr_put' List.mem_cons_self hfr1758 n1761
  refine G_aload_n 0 dr_cX15_put_48 rfl ?_
  refine G_aload_n 1 dr_cX15_put_49 rfl ?_
  refine Gp_get 4 hmq1713 he1762 dr_cX15_put_50 (gk_X15 D I) (Nat.le_of_ble_eq_true rfl) wr_9_194 rfl ?_
  refine Gp_put 4 hmq1712 he1763 dr_cX15_put_53 (gk_X15 D I) (Nat.le_of_ble_eq_true rfl) wr_9_194 rfl rfl rfl (Nat.le_of_ble_eq_true rfl) (fun F1765 e1766 n1767 => ?_)
  have he1768 : F1765 q1713 = .inr (20, [.int p1721, .int p1722, .int p1723, .int p1724, .int p1725, .int p1726, .int p1727]) := (n1767 q1713 (Ne.symm hneq1712q1713)).trans he1762
  have he1769 : F1765 q1712 = .inr (20, [.int p1721, .int p1722, .int p1723, .int p1724, .int p1725, .int p1726, .int p1727]) := e1766
  have hfr1770 : rFr [q1712] P1710 F1711 F1765 := rFr_put' List.mem_cons_self hfr1764 n1767
  exact G_vretA dr_cX15_put_56 rfl (Nat.le_of_ble_eq_true rfl) (Nat.le_of_ble_eq_true rfl) ⟨F1765, rfl, rfl, hfr1770, he1769, he1768, (Nat.le_of_ble_eq_true rfl), (Nat.le_of_ble_eq_true rfl)⟩
/- tr_RModel_setOf: result -/
def tr_RModel_setOf (a1 : Int32) (a0_op : Int32) (a0_t : Int32) (a0_slot : Int32) (o1 : Int32) : Prop := ∀ R : (Int32) → Prop,
  (∀ (x1 : Int32), a1.toInt = 0 → gB x1 0 1 → tr_RRow_sets a0_op x1 → x1.toInt = 0 → R (-1 : Int32)) →
  (∀ (x1 : Int32), a1.toInt = 0 → gB x1 0 1 → tr_RRow_sets a0_op x1 → x1.toInt ≠ 0 → R a0_t) →
  (a1.toInt ≠ 0 → a0_op.toInt ≠ 23 → R (-1 : Int32)) →
  (a1.toInt ≠ 0 → a0_op.toInt = 23 → R a0_slot) →
  R o1
abbrev ky_1784_SpillForgeModel_setOf : gKey := (cX17_setOf, 2, "SpillForgeModel", (some FieldType.int), [], "setOf", fun _ _ => True)
def pp_1784_SpillForgeModel_setOf (D : va_G) (I : FieldType → ClassId) (P1773 : List Nat) (F1774 : Nat → va_E) (q1775 : Nat) (p1776 : Int32) (p1777 : Int32) (p1778 : Int32) (p1779 : Int32) (p1780 : Int32) (p1781 : Int32) (p1782 : Int32) (p1783 : Int32) : Option Value → va_W → Nat → Nat → Prop := fun r w dc ds => ∃ (o1801 : Int32), r = some (.int o1801) ∧ w = va_pl P1773 F1774 ∧ dc ≤ 0 ∧ ds ≤ 0 ∧ gB o1801 (-1) 1999 ∧ tr_RModel_setOf p1776 p1777 p1778 p1781 o1801
set_option maxRecDepth 100000 in
set_option maxHeartbeats 4000000 in
theorem cp_1784_SpillForgeModel_setOf (l : Launch) (hl0 : l.stackTraces = false) (D : va_G) (I : FieldType → ClassId) (P1773 : List Nat) (F1774 : Nat → va_E) (q1775 : Nat) (p1776 : Int32) (p1777 : Int32) (p1778 : Int32) (p1779 : Int32) (p1780 : Int32) (p1781 : Int32) (p1782 : Int32) (p1783 : Int32) (hmq1775 : q1775 ∈ P1773) (heq1775 : F1774 q1775 = .inr (20, [.int p1777, .int p1778, .int p1779, .int p1780, .int p1781, .int p1782, .int p1783])) (bp1776 : gB p1776 0 1) (bp1777 : gB p1777 0 32) (bp1778 : gB p1778 0 1999) (bp1781 : gB p1781 0 1999) (bp1782 : gB p1782 0 1) (bp1783 : gB p1783 0 1) : CtA (gV D I) l yX17_setOf cX17_setOf 2 (some FieldType.int) 1 20 0 0 [.ref q1775, .int p1776] (va_pl P1773 F1774) (pp_1784_SpillForgeModel_setOf D I P1773 F1774 q1775 p1776 p1777 p1778 p1779 p1780 p1781 p1782 p1783) gNA := by
  refine CtA_of hl0 (by decide) (Nat.le_of_ble_eq_true rfl) ?_
  have bp1779 := gB_any p1779
  have bp1780 := gB_any p1780
  refine G_iload_n 1 dr_cX17_setOf_0 rfl ?_
  refine G_if_eq 24 dr_cX17_setOf_1 (by decide +kernel) (fun hc1785 => ?_) (fun hc1785 => ?_)
  · have r1786 : p1776.toInt = 0 := gj_eq hc1785 (show Int32.toInt 0 = 0 by decide)
    have bp1776' : gB p1776 0 0 := ⟨by omega, by omega⟩
    refine G_aload_n 0 dr_cX17_setOf_24 rfl ?_
    refine Gw_callV (As := []) (gV_ok D I) (cp_1660_Row_sets l hl0 D I P1773 F1774 q1775 p1777 p1778 p1779 p1780 p1781 p1782 p1783 hmq1775 heq1775 bp1777 bp1778 bp1781 bp1782 bp1783) dr_cX17_setOf_25 ⟨wr_10_181, wr_1_39, wr_10_184, by decide, rfl, (Nat.le_of_ble_eq_true rfl), (Nat.le_of_ble_eq_true rfl)⟩ wr_10_182 wr_10_183 hmq1775 heq1775 rfl (show 0 + 0 ≤ 0 by first | omega | decide) (show 0 + 0 ≤ 0 by first | omega | decide) (Nat.le_of_ble_eq_true rfl) (fun r1790 w1791 dc1787 ds1788 hp1789 => ?_) (fun _ _ _ _ _ z => z.elim)
    obtain ⟨o1792, rfl, rfl, hdc, hds, bo1792, ht1793⟩ := hp1789
    change G _ _ _ _ _ _ _ (.int o1792 :: _) _ _ _
    refine G_widen (cs' := 0) (sl' := 0) (by omega) (by omega) ?_
    refine G_if_eq 38 dr_cX17_setOf_28 (by decide +kernel) (fun hc1794 => ?_) (fun hc1794 => ?_)
    · have r1795 : o1792.toInt = 0 := gj_eq hc1794 (show Int32.toInt 0 = 0 by decide)
      have bo1792' : gB o1792 0 0 := ⟨by omega, by omega⟩
      refine G_iconst (-1) dr_cX17_setOf_38 (by decide +kernel) ?_
      exact G_iretA dr_cX17_setOf_39 rfl (Nat.le_of_ble_eq_true rfl) (Nat.le_of_ble_eq_true rfl) ⟨(-1), rfl, rfl, (Nat.le_of_ble_eq_true rfl), (Nat.le_of_ble_eq_true rfl), (gB_w (gBl (show Int32.toInt (-1) = (-1) by decide)) (by decide) (by decide)), (fun R c1 c2 c3 c4 => c1 o1792 r1786 bo1792 ht1793 r1795)⟩
    · have r1796 : o1792.toInt ≠ 0 := gj_neq hc1794 (show Int32.toInt 0 = 0 by decide)
      have bo1792' : gB o1792 1 1 := ⟨by omega, by omega⟩
      refine G_aload_n 0 dr_cX17_setOf_31 rfl ?_
      refine Gp_get 1 hmq1775 heq1775 dr_cX17_setOf_32 (gk_X15 D I) (Nat.le_of_ble_eq_true rfl) wr_9_182 rfl ?_
      refine G_goto 39 dr_cX17_setOf_35 (by decide +kernel) ?_
      exact G_iretA dr_cX17_setOf_39 rfl (Nat.le_of_ble_eq_true rfl) (Nat.le_of_ble_eq_true rfl) ⟨p1778, rfl, rfl, (Nat.le_of_ble_eq_true rfl), (Nat.le_of_ble_eq_true rfl), (gB_w bp1778 (by decide) (by decide)), (fun R c1 c2 c3 c4 => c2 o1792 r1786 bo1792 ht1793 r1796)⟩
  · have r1797 : p1776.toInt ≠ 0 := gj_neq hc1785 (show Int32.toInt 0 = 0 by decide)
    have bp1776' : gB p1776 1 1 := ⟨by omega, by omega⟩
    refine G_aload_n 0 dr_cX17_setOf_4 rfl ?_
    refine Gp_get 0 hmq1775 heq1775 dr_cX17_setOf_5 (gk_X15 D I) (Nat.le_of_ble_eq_true rfl) wr_9_177 rfl ?_
    refine G_bipush 23 dr_cX17_setOf_8 (by decide +kernel) ?_
    refine G_icmp_ne 20 dr_cX17_setOf_10 (by decide +kernel) (fun hc1798 => ?_) (fun hc1798 => ?_)
    · have r1799 : p1777.toInt ≠ 23 := gj_neq hc1798 (show Int32.toInt 23 = 23 by decide)
      refine G_iconst (-1) dr_cX17_setOf_20 (by decide +kernel) ?_
      refine G_goto 39 dr_cX17_setOf_21 (by decide +kernel) ?_
      exact G_iretA dr_cX17_setOf_39 rfl (Nat.le_of_ble_eq_true rfl) (Nat.le_of_ble_eq_true rfl) ⟨(-1), rfl, rfl, (Nat.le_of_ble_eq_true rfl), (Nat.le_of_ble_eq_true rfl), (gB_w (gBl (show Int32.toInt (-1) = (-1) by decide)) (by decide) (by decide)), (fun R c1 c2 c3 c4 => c3 r1797 r1799)⟩
    · have r1800 : p1777.toInt = 23 := gj_eq hc1798 (show Int32.toInt 23 = 23 by decide)
      have bp1777' : gB p1777 23 23 := ⟨by omega, by omega⟩
      refine G_aload_n 0 dr_cX17_setOf_13 rfl ?_
      refine Gp_get 4 hmq1775 heq1775 dr_cX17_setOf_14 (gk_X15 D I) (Nat.le_of_ble_eq_true rfl) wr_9_193 rfl ?_
      refine G_goto 39 dr_cX17_setOf_17 (by decide +kernel) ?_
      exact G_iretA dr_cX17_setOf_39 rfl (Nat.le_of_ble_eq_true rfl) (Nat.le_of_ble_eq_true rfl) ⟨p1781, rfl, rfl, (Nat.le_of_ble_eq_true rfl), (Nat.le_of_ble_eq_true rfl), (gB_w bp1781 (by decide) (by decide)), (fun R c1 c2 c3 c4 => c4 r1797 r1800)⟩
/- tr_RBlock_ways: result -/
def tr_RBlock_ways (a0_first : Int32) (a0_second : Int32) (a0_end_op : Int32) (o1 : Int32) : Prop := ∀ R : (Int32) → Prop,
  (a0_end_op.toInt ≠ 32 → a0_end_op.toInt = 30 → R (1 : Int32)) →
  (a0_end_op.toInt ≠ 32 → a0_end_op.toInt ≠ 30 → a0_first.toInt ≠ a0_second.toInt → R (2 : Int32)) →
  (a0_end_op.toInt ≠ 32 → a0_end_op.toInt ≠ 30 → a0_first.toInt = a0_second.toInt → R (1 : Int32)) →
  (a0_end_op.toInt = 32 → R (0 : Int32)) →
  R o1
abbrev ky_1816_Block_ways : gKey := (cX12_ways, 1, "SpillForgeModel$Block", (some FieldType.int), [], "ways", fun _ _ => True)
def pp_1816_Block_ways (D : va_G) (I : FieldType → ClassId) (P1802 : List Nat) (F1803 : Nat → va_E) (q1804 : Nat) (q1805 : Nat) (qo1806 : Nat) (p1807 : Int32) (p1808 : Int32) (p1809 : Int32) (p1810 : Int32) (p1811 : Int32) (p1812 : Int32) (p1813 : Int32) (p1814 : Int32) (p1815 : Int32) : Option Value → va_W → Nat → Nat → Prop := fun r w dc ds => ∃ (o1826 : Int32), r = some (.int o1826) ∧ w = va_pl P1802 F1803 ∧ dc ≤ 0 ∧ ds ≤ 0 ∧ gB o1826 0 2 ∧ tr_RBlock_ways p1807 p1808 p1809 o1826
set_option maxRecDepth 100000 in
set_option maxHeartbeats 4000000 in
theorem cp_1816_Block_ways (l : Launch) (hl0 : l.stackTraces = false) (D : va_G) (I : FieldType → ClassId) (P1802 : List Nat) (F1803 : Nat → va_E) (q1804 : Nat) (q1805 : Nat) (qo1806 : Nat) (p1807 : Int32) (p1808 : Int32) (p1809 : Int32) (p1810 : Int32) (p1811 : Int32) (p1812 : Int32) (p1813 : Int32) (p1814 : Int32) (p1815 : Int32) (hmq1804 : q1804 ∈ P1802) (hmq1805 : q1805 ∈ P1802) (heq1804 : F1803 q1804 = .inr (17, [.ref qo1806, .ref q1805, .int p1807, .int p1808])) (heq1805 : F1803 q1805 = .inr (20, [.int p1809, .int p1810, .int p1811, .int p1812, .int p1813, .int p1814, .int p1815])) (bp1807 : gB p1807 0 39) (bp1808 : gB p1808 0 39) (bp1809 : gB p1809 0 32) (bp1810 : gB p1810 0 1999) (bp1813 : gB p1813 0 1999) (bp1814 : gB p1814 0 1) (bp1815 : gB p1815 0 1) : CtA (gV D I) l yX12_ways cX12_ways 1 (some FieldType.int) 0 0 0 0 [.ref q1804] (va_pl P1802 F1803) (pp_1816_Block_ways D I P1802 F1803 q1804 q1805 qo1806 p1807 p1808 p1809 p1810 p1811 p1812 p1813 p1814 p1815) gNA := by
  refine CtA_of hl0 (by decide) (Nat.le_of_ble_eq_true rfl) ?_
  have bp1811 := gB_any p1811
  have bp1812 := gB_any p1812
  refine G_aload_n 0 dr_cX12_ways_0 rfl ?_
  refine Gp_get 1 hmq1804 heq1804 dr_cX12_ways_1 (gk_X12 D I) (Nat.le_of_ble_eq_true rfl) wr_9_222 rfl ?_
  refine Gp_get 0 hmq1805 heq1805 dr_cX12_ways_4 (gk_X15 D I) (Nat.le_of_ble_eq_true rfl) wr_9_176 rfl ?_
  refine G_bipush 32 dr_cX12_ways_7 (by decide +kernel) ?_
  refine G_icmp_ne 16 dr_cX12_ways_9 (by decide +kernel) (fun hc1817 => ?_) (fun hc1817 => ?_)
  · have r1818 : p1809.toInt ≠ 32 := gj_neq hc1817 (show Int32.toInt 32 = 32 by decide)
    have bp1809' : gB p1809 0 31 := ⟨by omega, by omega⟩
    refine G_aload_n 0 dr_cX12_ways_16 rfl ?_
    refine Gp_get 1 hmq1804 heq1804 dr_cX12_ways_17 (gk_X12 D I) (Nat.le_of_ble_eq_true rfl) wr_9_222 rfl ?_
    refine Gp_get 0 hmq1805 heq1805 dr_cX12_ways_20 (gk_X15 D I) (Nat.le_of_ble_eq_true rfl) wr_9_176 rfl ?_
    refine G_bipush 30 dr_cX12_ways_23 (by decide +kernel) ?_
    refine G_icmp_eq 39 dr_cX12_ways_25 (by decide +kernel) (fun hc1819 => ?_) (fun hc1819 => ?_)
    · have r1820 : p1809.toInt = 30 := gj_eq hc1819 (show Int32.toInt 30 = 30 by decide)
      have bp1809'' : gB p1809 30 30 := ⟨by omega, by omega⟩
      refine G_iconst 1 dr_cX12_ways_39 (by decide +kernel) ?_
      refine G_goto 44 dr_cX12_ways_40 (by decide +kernel) ?_
      exact G_iretA dr_cX12_ways_44 rfl (Nat.le_of_ble_eq_true rfl) (Nat.le_of_ble_eq_true rfl) ⟨1, rfl, rfl, (Nat.le_of_ble_eq_true rfl), (Nat.le_of_ble_eq_true rfl), (gB_w (gBl (show Int32.toInt 1 = 1 by decide)) (by decide) (by decide)), (fun R c1 c2 c3 c4 => c1 r1818 r1820)⟩
    · have r1821 : p1809.toInt ≠ 30 := gj_neq hc1819 (show Int32.toInt 30 = 30 by decide)
      refine G_aload_n 0 dr_cX12_ways_28 rfl ?_
      refine Gp_get 2 hmq1804 heq1804 dr_cX12_ways_29 (gk_X12 D I) (Nat.le_of_ble_eq_true rfl) wr_9_226 rfl ?_
      refine G_aload_n 0 dr_cX12_ways_32 rfl ?_
      refine Gp_get 3 hmq1804 heq1804 dr_cX12_ways_33 (gk_X12 D I) (Nat.le_of_ble_eq_true rfl) wr_9_230 rfl ?_
      refine G_icmp_ne 43 dr_cX12_ways_36 (by decide +kernel) (fun hc1822 => ?_) (fun hc1822 => ?_)
      · have r1823 : p1807.toInt ≠ p1808.toInt := gC_ne hc1822
        refine G_iconst 2 dr_cX12_ways_43 (by decide +kernel) ?_
        exact G_iretA dr_cX12_ways_44 rfl (Nat.le_of_ble_eq_true rfl) (Nat.le_of_ble_eq_true rfl) ⟨2, rfl, rfl, (Nat.le_of_ble_eq_true rfl), (Nat.le_of_ble_eq_true rfl), (gB_w (gBl (show Int32.toInt 2 = 2 by decide)) (by decide) (by decide)), (fun R c1 c2 c3 c4 => c2 r1818 r1821 r1823)⟩
      · have r1824 : p1807.toInt = p1808.toInt := gC_eq hc1822
        refine G_iconst 1 dr_cX12_ways_39 (by decide +kernel) ?_
        refine G_goto 44 dr_cX12_ways_40 (by decide +kernel) ?_
        exact G_iretA dr_cX12_ways_44 rfl (Nat.le_of_ble_eq_true rfl) (Nat.le_of_ble_eq_true rfl) ⟨1, rfl, rfl, (Nat.le_of_ble_eq_true rfl), (Nat.le_of_ble_eq_true rfl), (gB_w (gBl (show Int32.toInt 1 = 1 by decide)) (by decide) (by decide)), (fun R c1 c2 c3 c4 => c3 r1818 r1821 r1824)⟩
  · have r1825 : p1809.toInt = 32 := gj_eq hc1817 (show Int32.toInt 32 = 32 by decide)
    have bp1809' : gB p1809 32 32 := ⟨by omega, by omega⟩
    refine G_iconst 0 dr_cX12_ways_12 (by decide +kernel) ?_
    refine G_goto 44 dr_cX12_ways_13 (by decide +kernel) ?_
    exact G_iretA dr_cX12_ways_44 rfl (Nat.le_of_ble_eq_true rfl) (Nat.le_of_ble_eq_true rfl) ⟨0, rfl, rfl, (Nat.le_of_ble_eq_true rfl), (Nat.le_of_ble_eq_true rfl), (gB_w (gBl (show Int32.toInt 0 = 0 by decide)) (by decide) (by decide)), (fun R c1 c2 c3 c4 => c4 r1825)⟩
/- tr_RBlock_way: result -/
def tr_RBlock_way (a1 : Int32) (a0_first : Int32) (a0_second : Int32) (o1 : Int32) : Prop := ∀ R : (Int32) → Prop,
  (a1.toInt ≠ 0 → R a0_second) →
  (a1.toInt = 0 → R a0_first) →
  R o1
abbrev ky_1835_Block_way : gKey := (cX12_way, 2, "SpillForgeModel$Block", (some FieldType.int), [], "way", fun _ _ => True)
def pp_1835_Block_way (D : va_G) (I : FieldType → ClassId) (P1827 : List Nat) (F1828 : Nat → va_E) (q1829 : Nat) (p1830 : Int32) (qo1831 : Nat) (qo1832 : Nat) (p1833 : Int32) (p1834 : Int32) : Option Value → va_W → Nat → Nat → Prop := fun r w dc ds => ∃ (o1839 : Int32), r = some (.int o1839) ∧ w = va_pl P1827 F1828 ∧ dc ≤ 0 ∧ ds ≤ 0 ∧ gB o1839 0 39 ∧ tr_RBlock_way p1830 p1833 p1834 o1839
set_option maxRecDepth 100000 in
set_option maxHeartbeats 4000000 in
theorem cp_1835_Block_way (l : Launch) (hl0 : l.stackTraces = false) (D : va_G) (I : FieldType → ClassId) (P1827 : List Nat) (F1828 : Nat → va_E) (q1829 : Nat) (p1830 : Int32) (qo1831 : Nat) (qo1832 : Nat) (p1833 : Int32) (p1834 : Int32) (hmq1829 : q1829 ∈ P1827) (heq1829 : F1828 q1829 = .inr (17, [.ref qo1831, .ref qo1832, .int p1833, .int p1834])) (bp1833 : gB p1833 0 39) (bp1834 : gB p1834 0 39) : CtA (gV D I) l yX12_way cX12_way 2 (some FieldType.int) 0 0 0 0 [.ref q1829, .int p1830] (va_pl P1827 F1828) (pp_1835_Block_way D I P1827 F1828 q1829 p1830 qo1831 qo1832 p1833 p1834) gNA := by
  refine CtA_of hl0 (by decide) (Nat.le_of_ble_eq_true rfl) ?_
  have bp1830 := gB_any p1830
  refine G_iload_n 1 dr_cX12_way_0 rfl ?_
  refine G_if_ne 11 dr_cX12_way_1 (by decide +kernel) (fun hc1836 => ?_) (fun hc1836 => ?_)
  · have r1837 : p1830.toInt ≠ 0 := gj_neq hc1836 (show Int32.toInt 0 = 0 by decide)
    refine G_aload_n 0 dr_cX12_way_11 rfl ?_
    refine Gp_get 3 hmq1829 heq1829 dr_cX12_way_12 (gk_X12 D I) (Nat.le_of_ble_eq_true rfl) wr_9_230 rfl ?_
    exact G_iretA dr_cX12_way_15 rfl (Nat.le_of_ble_eq_true rfl) (Nat.le_of_ble_eq_true rfl) ⟨p1834, rfl, rfl, (Nat.le_of_ble_eq_true rfl), (Nat.le_of_ble_eq_true rfl), bp1834, (fun R c1 c2 => c1 r1837)⟩
  · have r1838 : p1830.toInt = 0 := gj_eq hc1836 (show Int32.toInt 0 = 0 by decide)
    have bp1830' : gB p1830 0 0 := ⟨by omega, by omega⟩
    refine G_aload_n 0 dr_cX12_way_4 rfl ?_
    refine Gp_get 2 hmq1829 heq1829 dr_cX12_way_5 (gk_X12 D I) (Nat.le_of_ble_eq_true rfl) wr_9_226 rfl ?_
    refine G_goto 15 dr_cX12_way_8 (by decide +kernel) ?_
    exact G_iretA dr_cX12_way_15 rfl (Nat.le_of_ble_eq_true rfl) (Nat.le_of_ble_eq_true rfl) ⟨p1833, rfl, rfl, (Nat.le_of_ble_eq_true rfl), (Nat.le_of_ble_eq_true rfl), bp1833, (fun R c1 c2 => c2 r1838)⟩
/- tr_RModel_has: result -/
def tr_RModel_has (a1 : Int32) (a0_v : Nat → Int64) (o1 : Int32) : Prop := ∀ R : (Int32) → Prop,
  (∀ (x1 : Int32) (x2 : Int64) (x3 : Int64) (x4 : Int64), x1.toInt = a1.toInt / 64 → x2 = a0_v x1.toNatClampNeg → x3 = (x2.toUInt64 >>> (a1.toInt64.toUInt64 &&& Int64.toUInt64 63)).toInt64 → x4 = x3 &&& (1 : Int64) → x4 = (0 : Int64) → R (0 : Int32)) →
  (∀ (x1 : Int32) (x2 : Int64) (x3 : Int64) (x4 : Int64), x1.toInt = a1.toInt / 64 → x2 = a0_v x1.toNatClampNeg → x3 = (x2.toUInt64 >>> (a1.toInt64.toUInt64 &&& Int64.toUInt64 63)).toInt64 → x4 = x3 &&& (1 : Int64) → (¬ x4 = (0 : Int64)) → R (1 : Int32)) →
  R o1
abbrev ky_1845_SpillForgeModel_has : gKey := (cX17_has, 2, "SpillForgeModel", (some FieldType.boolean), [], "has", fun _ _ => True)
def pp_1845_SpillForgeModel_has (D : va_G) (I : FieldType → ClassId) (P1840 : List Nat) (F1841 : Nat → va_E) (q1842 : Nat) (p1843 : Int32) (f1844 : Nat → Int64) : Option Value → va_W → Nat → Nat → Prop := fun r w dc ds => (∃ (z1846 : Int32) (z1850 : Int32), r = some (.int 0) ∧ w = va_pl P1840 F1841 ∧ dc ≤ 0 ∧ ds ≤ 0 ∧ z1846.toInt = p1843.toInt / 64 ∧ z1850.toInt = 0 ∧ gB z1846 0 31 ∧ gB z1850 0 0 ∧ tr_RModel_has p1843 f1844 (0 : Int32)) ∨ (∃ (z1846 : Int32) (z1850 : Int32), r = some (.int 1) ∧ w = va_pl P1840 F1841 ∧ dc ≤ 0 ∧ ds ≤ 0 ∧ z1846.toInt = p1843.toInt / 64 ∧ z1850.toInt ≠ 0 ∧ gB z1846 0 31 ∧ gB z1850 (-1) 1 ∧ tr_RModel_has p1843 f1844 (1 : Int32))
set_option maxRecDepth 100000 in
set_option maxHeartbeats 4000000 in
theorem cp_1845_SpillForgeModel_has (l : Launch) (hl0 : l.stackTraces = false) (D : va_G) (I : FieldType → ClassId) (P1840 : List Nat) (F1841 : Nat → va_E) (q1842 : Nat) (p1843 : Int32) (f1844 : Nat → Int64) (hmq1842 : q1842 ∈ P1840) (heq1842 : F1841 q1842 = .inl (I .long, 32, .inr (.inl f1844))) (bp1843 : gB p1843 0 2047) : CtA (gV D I) l yX17_has cX17_has 2 (some FieldType.boolean) 0 0 0 0 [.ref q1842, .int p1843] (va_pl P1840 F1841) (pp_1845_SpillForgeModel_has D I P1840 F1841 q1842 p1843 f1844) gNA := by
  refine CtA_of hl0 (by decide) (Nat.le_of_ble_eq_true rfl) ?_
  refine G_aload_n 0 dr_cX17_has_0 rfl ?_
  refine G_iload_n 1 dr_cX17_has_1 rfl ?_
  refine G_bipush 6 dr_cX17_has_2 (by decide +kernel) ?_
  refine G_ishr dr_cX17_has_4 (G_nam fun z1846 hz1846 => ?_)
  have ez1846 : z1846.toInt = p1843.toInt / 64 := gI_shr (k := 6) hz1846 (by decide)
  have bz1846 : gB z1846 0 31 := ⟨by omega, by omega⟩
  refine Gp_lald 2 hmq1842 heq1842 dr_cX17_has_5 rfl (gB_in bz1846 (by decide) (by decide)) (G_namL fun u1847 hu1847 => ?_)
  refine G_iload_n 1 dr_cX17_has_6 rfl ?_
  refine G_lushr dr_cX17_has_7 (G_namL fun u1848 hu1848 => ?_)
  refine G_lconst 1 dr_cX17_has_8 rfl ?_
  refine G_land dr_cX17_has_9 (G_namL fun u1849 hu1849 => ?_)
  refine G_lconst 0 dr_cX17_has_10 rfl ?_
  refine G_lcmp dr_cX17_has_11 (G_nam fun z1850 hz1850 => ?_)
  have bz1850 : gB z1850 (-1) 1 := gB_cmp hz1850
  refine G_if_eq 19 dr_cX17_has_12 (by decide +kernel) (fun hc1851 => ?_) (fun hc1851 => ?_)
  · have r1852 : z1850.toInt = 0 := gj_eq hc1851 (show Int32.toInt 0 = 0 by decide)
    have bz1850' : gB z1850 0 0 := ⟨by omega, by omega⟩
    have lhc1851 := gC_cmpE hz1850 hc1851
    refine G_iconst 0 dr_cX17_has_19 (by decide +kernel) ?_
    exact G_zretA FieldType.boolean dr_cX17_has_20 rfl rfl (Nat.le_of_ble_eq_true rfl) (Nat.le_of_ble_eq_true rfl) (Or.inl ⟨z1846, z1850, rfl, rfl, (Nat.le_of_ble_eq_true rfl), (Nat.le_of_ble_eq_true rfl), ez1846, r1852, bz1846, bz1850', (fun R c1 c2 => c1 z1846 u1847 u1848 u1849 ez1846 hu1847 hu1848 hu1849 lhc1851)⟩)
  · have r1853 : z1850.toInt ≠ 0 := gj_neq hc1851 (show Int32.toInt 0 = 0 by decide)
    have lhc1851 := gC_cmpN hz1850 hc1851
    refine G_iconst 1 dr_cX17_has_15 (by decide +kernel) ?_
    refine G_goto 20 dr_cX17_has_16 (by decide +kernel) ?_
    exact G_zretA FieldType.boolean dr_cX17_has_20 rfl rfl (Nat.le_of_ble_eq_true rfl) (Nat.le_of_ble_eq_true rfl) (Or.inr (⟨z1846, z1850, rfl, rfl, (Nat.le_of_ble_eq_true rfl), (Nat.le_of_ble_eq_true rfl), ez1846, r1853, bz1846, bz1850, (fun R c1 c2 => c2 z1846 u1847 u1848 u1849 ez1846 hu1847 hu1848 hu1849 lhc1851)⟩))
/- tr_RModel_set: a.0.[] -/
def tr_RModel_set (a1 : Int32) (a0_v : Nat → Int64) (o1 : Nat → Int64) : Prop := ∀ R : (Nat → Int64) → Prop,
  (∀ (x1 : Int32) (x2 : Int64) (x3 : Int64) (x4 : Int64) (x5 : Nat → Int64), x1.toInt = a1.toInt / 64 → x2 = a0_v x1.toNatClampNeg → x3 = (1 : Int64) <<< (a1.toInt64 &&& 63) → x4 = x2 ||| x3 → x5 = vp_updL a0_v x1.toNatClampNeg x4 → R x5) →
  R o1
abbrev ky_1860_SpillForgeModel_set : gKey := (cX17_set, 2, "SpillForgeModel", none, [], "set", fun _ _ => True)
def pp_1860_SpillForgeModel_set (D : va_G) (I : FieldType → ClassId) (P1854 : List Nat) (F1855 : Nat → va_E) (q1856 : Nat) (p1857 : Int32) (f1858 : Nat → Int64) : Option Value → va_W → Nat → Nat → Prop := fun r w dc ds => ∃ (F1873 : Nat → va_E) (f1871 : Nat → Int64), r = none ∧ w = va_pl P1854 F1873 ∧ rFr [q1856] P1854 F1855 F1873 ∧ F1873 q1856 = .inl (I .long, 32, .inr (.inl f1871)) ∧ dc ≤ 0 ∧ ds ≤ 0 ∧ lb_W f1871 (32) (32) (2000) ∧ tr_RModel_set p1857 f1858 f1871
set_option maxRecDepth 100000 in
set_option maxHeartbeats 4000000 in
theorem cp_1860_SpillForgeModel_set (l : Launch) (hl0 : l.stackTraces = false) (D : va_G) (I : FieldType → ClassId) (P1854 : List Nat) (F1855 : Nat → va_E) (q1856 : Nat) (p1857 : Int32) (f1858 : Nat → Int64) (hmq1856 : q1856 ∈ P1854) (heq1856 : F1855 q1856 = .inl (I .long, 32, .inr (.inl f1858))) (bp1857 : gB p1857 0 1999) (x1859 : lb_W f1858 (32) (32) (2000)) : CtA (gV D I) l yX17_set cX17_set 2 none 0 0 0 0 [.ref q1856, .int p1857] (va_pl P1854 F1855) (pp_1860_SpillForgeModel_set D I P1854 F1855 q1856 p1857 f1858) gNA := by
  refine CtA_of hl0 (by decide) (Nat.le_of_ble_eq_true rfl) ?_
  refine G_aload_n 0 dr_cX17_set_0 rfl ?_
  refine G_iload_n 1 dr_cX17_set_1 rfl ?_
  refine G_bipush 6 dr_cX17_set_2 (by decide +kernel) ?_
  refine G_ishr dr_cX17_set_4 (G_nam fun z1861 hz1861 => ?_)
  have ez1861 : z1861.toInt = p1857.toInt / 64 := gI_shr (k := 6) hz1861 (by decide)
  have bz1861 : gB z1861 0 31 := ⟨by omega, by omega⟩
  refine G_dup2_11 dr_cX17_set_5 rfl rfl ?_
  refine Gp_lald 2 hmq1856 heq1856 dr_cX17_set_6 rfl (gB_in bz1861 (by decide) (by decide)) (G_namL fun u1862 hu1862 => ?_)
  have qu1862 : lb_Q u1862 (2000 - 64 * z1861.toInt) := lb_Wld hu1862 x1859 (by omega) (by omega) (lb_Mod0 (by omega) (by omega))
  refine G_lconst 1 dr_cX17_set_7 rfl ?_
  refine G_iload_n 1 dr_cX17_set_8 rfl ?_
  refine G_lshl dr_cX17_set_9 (G_namL fun u1863 hu1863 => ?_)
  have qu1863 : lb_Q u1863 (p1857.toInt % 64 + 1) := lb_Qshl hu1863 (by omega)
  refine G_lor dr_cX17_set_10 (G_namL fun u1864 hu1864 => ?_)
  have qu1864 : lb_Q u1864 (2000 - 64 * z1861.toInt) := lb_Qor hu1864 qu1862 (lb_Qw qu1863 (by omega))
  refine Gp_last 2 hmq1856 heq1856 dr_cX17_set_11 rfl (gB_in bz1861 (by decide) (by decide)) (fun F1865 e1866 n1867 => ?_)
  obtain ⟨f1868, hf1868⟩ : ∃ z, z = vp_updL f1858 z1861.toNatClampNeg u1864 := ⟨_, rfl⟩
  rw [← hf1868] at e1866
  have he1869 : F1865 q1856 = .inl (I .long, 32, .inr (.inl f1868)) := e1866
  have hfr1870 : rFr [q1856] P1854 F1855 F1865 := rFr_put (rFr_rf (W := []) (P := P1854) (F := F1855)) n1867
  have wf1868 : lb_W f1868 (32) (32) (2000) := lb_Wst hf1868 x1859 (by omega) (lb_Mod0 (by omega) (by omega)) qu1864
  exact G_vretA dr_cX17_set_12 rfl (Nat.le_of_ble_eq_true rfl) (Nat.le_of_ble_eq_true rfl) ⟨F1865, f1868, rfl, rfl, hfr1870, he1869, (Nat.le_of_ble_eq_true rfl), (Nat.le_of_ble_eq_true rfl), wf1868, (fun R c1 => c1 z1861 u1862 u1863 u1864 f1868 ez1861 hu1862 hu1863 hu1864 hf1868)⟩
/- tr_RModel_clear: a.0.[] -/
def tr_RModel_clear (a1 : Int32) (a0_v : Nat → Int64) (o1 : Nat → Int64) : Prop := ∀ R : (Nat → Int64) → Prop,
  (∀ (x1 : Int32) (x2 : Int64) (x3 : Int64) (x4 : Int64) (x5 : Int64) (x6 : Nat → Int64), x1.toInt = a1.toInt / 64 → x2 = a0_v x1.toNatClampNeg → x3 = (1 : Int64) <<< (a1.toInt64 &&& 63) → x4 = x3 ^^^ (-1 : Int64) → x5 = x2 &&& x4 → x6 = vp_updL a0_v x1.toNatClampNeg x5 → R x6) →
  R o1
abbrev ky_1880_SpillForgeModel_clear : gKey := (cX17_clear, 2, "SpillForgeModel", none, [], "clear", fun _ _ => True)
def pp_1880_SpillForgeModel_clear (D : va_G) (I : FieldType → ClassId) (P1874 : List Nat) (F1875 : Nat → va_E) (q1876 : Nat) (p1877 : Int32) (f1878 : Nat → Int64) : Option Value → va_W → Nat → Nat → Prop := fun r w dc ds => ∃ (F1894 : Nat → va_E) (f1892 : Nat → Int64), r = none ∧ w = va_pl P1874 F1894 ∧ rFr [q1876] P1874 F1875 F1894 ∧ F1894 q1876 = .inl (I .long, 32, .inr (.inl f1892)) ∧ dc ≤ 0 ∧ ds ≤ 0 ∧ lb_W f1892 (32) (32) (2000) ∧ tr_RModel_clear p1877 f1878 f1892
set_option maxRecDepth 100000 in
set_option maxHeartbeats 4000000 in
theorem cp_1880_SpillForgeModel_clear (l : Launch) (hl0 : l.stackTraces = false) (D : va_G) (I : FieldType → ClassId) (P1874 : List Nat) (F1875 : Nat → va_E) (q1876 : Nat) (p1877 : Int32) (f1878 : Nat → Int64) (hmq1876 : q1876 ∈ P1874) (heq1876 : F1875 q1876 = .inl (I .long, 32, .inr (.inl f1878))) (bp1877 : gB p1877 0 1999) (x1879 : lb_W f1878 (32) (32) (2000)) : CtA (gV D I) l yX17_clear cX17_clear 2 none 0 0 0 0 [.ref q1876, .int p1877] (va_pl P1874 F1875) (pp_1880_SpillForgeModel_clear D I P1874 F1875 q1876 p1877 f1878) gNA := by
  refine CtA_of hl0 (by decide) (Nat.le_of_ble_eq_true rfl) ?_
  refine G_aload_n 0 dr_cX17_clear_0 rfl ?_
  refine G_iload_n 1 dr_cX17_clear_1 rfl ?_
  refine G_bipush 6 dr_cX17_clear_2 (by decide +kernel) ?_
  refine G_ishr dr_cX17_clear_4 (G_nam fun z1881 hz1881 => ?_)
  have ez1881 : z1881.toInt = p1877.toInt / 64 := gI_shr (k := 6) hz1881 (by decide)
  have bz1881 : gB z1881 0 31 := ⟨by omega, by omega⟩
  refine G_dup2_11 dr_cX17_clear_5 rfl rfl ?_
  refine Gp_lald 2 hmq1876 heq1876 dr_cX17_clear_6 rfl (gB_in bz1881 (by decide) (by decide)) (G_namL fun u1882 hu1882 => ?_)
  have qu1882 : lb_Q u1882 (2000 - 64 * z1881.toInt) := lb_Wld hu1882 x1879 (by omega) (by omega) (lb_Mod0 (by omega) (by omega))
  refine G_lconst 1 dr_cX17_clear_7 rfl ?_
  refine G_iload_n 1 dr_cX17_clear_8 rfl ?_
  refine G_lshl dr_cX17_clear_9 (G_namL fun u1883 hu1883 => ?_)
  have qu1883 : lb_Q u1883 (p1877.toInt % 64 + 1) := lb_Qshl hu1883 (by omega)
  refine G_ldc2 (-1) dr_cX17_clear_10 wr_10_188 ?_
  refine G_lxor dr_cX17_clear_13 (G_namL fun u1884 hu1884 => ?_)
  refine G_land dr_cX17_clear_14 (G_namL fun u1885 hu1885 => ?_)
  have qu1885 : lb_Q u1885 (2000 - 64 * z1881.toInt) := lb_QandL hu1885 qu1882
  refine Gp_last 2 hmq1876 heq1876 dr_cX17_clear_15 rfl (gB_in bz1881 (by decide) (by decide)) (fun F1886 e1887 n1888 => ?_)
  obtain ⟨f1889, hf1889⟩ : ∃ z, z = vp_updL f1878 z1881.toNatClampNeg u1885 := ⟨_, rfl⟩
  rw [← hf1889] at e1887
  have he1890 : F1886 q1876 = .inl (I .long, 32, .inr (.inl f1889)) := e1887
  have hfr1891 : rFr [q1876] P1874 F1875 F1886 := rFr_put (rFr_rf (W := []) (P := P1874) (F := F1875)) n1888
  have wf1889 : lb_W f1889 (32) (32) (2000) := lb_Wst hf1889 x1879 (by omega) (lb_Mod0 (by omega) (by omega)) qu1885
  exact G_vretA dr_cX17_clear_16 rfl (Nat.le_of_ble_eq_true rfl) (Nat.le_of_ble_eq_true rfl) ⟨F1886, f1889, rfl, rfl, hfr1891, he1890, (Nat.le_of_ble_eq_true rfl), (Nat.le_of_ble_eq_true rfl), wf1889, (fun R c1 => c1 z1881 u1882 u1883 u1884 u1885 f1889 ez1881 hu1882 hu1883 hu1884 hu1885 hf1889)⟩
/- tr_RLong_bitCount: result -/
def tr_RLong_bitCount (a0 : Int64) (o1 : Int32) : Prop := ∀ R : (Int32) → Prop,
  (∀ (x1 : Int64) (x2 : Int64) (x3 : Int64) (x4 : Int64) (x5 : Int64) (x6 : Int64) (x7 : Int64) (x8 : Int64) (x9 : Int64) (x10 : Int64) (x11 : Int64) (x12 : Int64) (x13 : Int64) (x14 : Int64) (x15 : Int64) (x16 : Int64) (x17 : Int32) (x18 : Int32), x1 = (a0.toUInt64 >>> ((1 : Int32).toInt64.toUInt64 &&& Int64.toUInt64 63)).toInt64 → x2 = x1 &&& (6148914691236517205 : Int64) → x3 = a0 - x2 → x4 = x3 &&& (3689348814741910323 : Int64) → x5 = (x3.toUInt64 >>> ((2 : Int32).toInt64.toUInt64 &&& Int64.toUInt64 63)).toInt64 → x6 = x5 &&& (3689348814741910323 : Int64) → x7 = x4 + x6 → x8 = (x7.toUInt64 >>> ((4 : Int32).toInt64.toUInt64 &&& Int64.toUInt64 63)).toInt64 → x9 = x7 + x8 → x10 = x9 &&& (1085102592571150095 : Int64) → x11 = (x10.toUInt64 >>> ((8 : Int32).toInt64.toUInt64 &&& Int64.toUInt64 63)).toInt64 → x12 = x10 + x11 → x13 = (x12.toUInt64 >>> ((16 : Int32).toInt64.toUInt64 &&& Int64.toUInt64 63)).toInt64 → x14 = x12 + x13 → x15 = (x14.toUInt64 >>> ((32 : Int32).toInt64.toUInt64 &&& Int64.toUInt64 63)).toInt64 → x16 = x14 + x15 → x17 = x16.toInt32 → x18 = x17 &&& (127 : Int32) → R x18) →
  R o1
abbrev ky_1904_Long_bitCount : gKey := (cJ13_bitCount_95d88, 2, "java/lang/Long", (some FieldType.int), [], "bitCount", fun _ _ => True)
def pp_1904_Long_bitCount (D : va_G) (I : FieldType → ClassId) (P1901 : List Nat) (F1902 : Nat → va_E) (pl1903 : Int64) : Option Value → va_W → Nat → Nat → Prop := fun r w dc ds => ∃ (o1923 : Int32), r = some (.int o1923) ∧ w = va_pl P1901 F1902 ∧ dc ≤ 0 ∧ ds ≤ 0 ∧ gB o1923 0 127 ∧ tr_RLong_bitCount pl1903 o1923
set_option maxRecDepth 100000 in
set_option maxHeartbeats 4000000 in
theorem cp_1904_Long_bitCount (l : Launch) (hl0 : l.stackTraces = false) (D : va_G) (I : FieldType → ClassId) (P1901 : List Nat) (F1902 : Nat → va_E) (pl1903 : Int64)  : CtA (gV D I) l yJ13_bitCount_95d88 cJ13_bitCount_95d88 2 (some FieldType.int) 0 0 0 0 [.long pl1903] (va_pl P1901 F1902) (pp_1904_Long_bitCount D I P1901 F1902 pl1903) gNA := by
  refine CtA_ofF hl0 (by decide +kernel) (Nat.le_of_ble_eq_true rfl) ?_
  refine G_lload_n 0 dr_cJ13_bitCount_95d88_0 rfl ?_
  refine G_lload_n 0 dr_cJ13_bitCount_95d88_1 rfl ?_
  refine G_iconst 1 dr_cJ13_bitCount_95d88_2 (by decide +kernel) ?_
  refine G_lushr dr_cJ13_bitCount_95d88_3 (G_namL fun u1905 hu1905 => ?_)
  refine G_ldc2 6148914691236517205 dr_cJ13_bitCount_95d88_4 wr_4_96 ?_
  refine G_land dr_cJ13_bitCount_95d88_7 (G_namL fun u1906 hu1906 => ?_)
  refine G_lsub dr_cJ13_bitCount_95d88_8 (G_namL fun u1907 hu1907 => ?_)
  refine G_lstore_n (L' := [(0, .long u1907)]) dr_cJ13_bitCount_95d88_9 (Nat.le_of_ble_eq_true rfl) rfl ?_
  refine G_lload_n 0 dr_cJ13_bitCount_95d88_10 rfl ?_
  refine G_ldc2 3689348814741910323 dr_cJ13_bitCount_95d88_11 wr_4_97 ?_
  refine G_land dr_cJ13_bitCount_95d88_14 (G_namL fun u1908 hu1908 => ?_)
  refine G_lload_n 0 dr_cJ13_bitCount_95d88_15 rfl ?_
  refine G_iconst 2 dr_cJ13_bitCount_95d88_16 (by decide +kernel) ?_
  refine G_lushr dr_cJ13_bitCount_95d88_17 (G_namL fun u1909 hu1909 => ?_)
  refine G_ldc2 3689348814741910323 dr_cJ13_bitCount_95d88_18 wr_4_97 ?_
  refine G_land dr_cJ13_bitCount_95d88_21 (G_namL fun u1910 hu1910 => ?_)
  refine G_ladd dr_cJ13_bitCount_95d88_22 (G_namL fun u1911 hu1911 => ?_)
  refine G_lstore_n (L' := [(0, .long u1911)]) dr_cJ13_bitCount_95d88_23 (Nat.le_of_ble_eq_true rfl) rfl ?_
  refine G_lload_n 0 dr_cJ13_bitCount_95d88_24 rfl ?_
  refine G_lload_n 0 dr_cJ13_bitCount_95d88_25 rfl ?_
  refine G_iconst 4 dr_cJ13_bitCount_95d88_26 (by decide +kernel) ?_
  refine G_lushr dr_cJ13_bitCount_95d88_27 (G_namL fun u1912 hu1912 => ?_)
  refine G_ladd dr_cJ13_bitCount_95d88_28 (G_namL fun u1913 hu1913 => ?_)
  refine G_ldc2 1085102592571150095 dr_cJ13_bitCount_95d88_29 wr_4_98 ?_
  refine G_land dr_cJ13_bitCount_95d88_32 (G_namL fun u1914 hu1914 => ?_)
  refine G_lstore_n (L' := [(0, .long u1914)]) dr_cJ13_bitCount_95d88_33 (Nat.le_of_ble_eq_true rfl) rfl ?_
  refine G_lload_n 0 dr_cJ13_bitCount_95d88_34 rfl ?_
  refine G_lload_n 0 dr_cJ13_bitCount_95d88_35 rfl ?_
  refine G_bipush 8 dr_cJ13_bitCount_95d88_36 (by decide +kernel) ?_
  refine G_lushr dr_cJ13_bitCount_95d88_38 (G_namL fun u1915 hu1915 => ?_)
  refine G_ladd dr_cJ13_bitCount_95d88_39 (G_namL fun u1916 hu1916 => ?_)
  refine G_lstore_n (L' := [(0, .long u1916)]) dr_cJ13_bitCount_95d88_40 (Nat.le_of_ble_eq_true rfl) rfl ?_
  refine G_lload_n 0 dr_cJ13_bitCount_95d88_41 rfl ?_
  refine G_lload_n 0 dr_cJ13_bitCount_95d88_42 rfl ?_
  refine G_bipush 16 dr_cJ13_bitCount_95d88_43 (by decide +kernel) ?_
  refine G_lushr dr_cJ13_bitCount_95d88_45 (G_namL fun u1917 hu1917 => ?_)
  refine G_ladd dr_cJ13_bitCount_95d88_46 (G_namL fun u1918 hu1918 => ?_)
  refine G_lstore_n (L' := [(0, .long u1918)]) dr_cJ13_bitCount_95d88_47 (Nat.le_of_ble_eq_true rfl) rfl ?_
  refine G_lload_n 0 dr_cJ13_bitCount_95d88_48 rfl ?_
  refine G_lload_n 0 dr_cJ13_bitCount_95d88_49 rfl ?_
  refine G_bipush 32 dr_cJ13_bitCount_95d88_50 (by decide +kernel) ?_
  refine G_lushr dr_cJ13_bitCount_95d88_52 (G_namL fun u1919 hu1919 => ?_)
  refine G_ladd dr_cJ13_bitCount_95d88_53 (G_namL fun u1920 hu1920 => ?_)
  refine G_lstore_n (L' := [(0, .long u1920)]) dr_cJ13_bitCount_95d88_54 (Nat.le_of_ble_eq_true rfl) rfl ?_
  refine G_lload_n 0 dr_cJ13_bitCount_95d88_55 rfl ?_
  refine G_l2i dr_cJ13_bitCount_95d88_56 (G_nam fun z1921 hz1921 => ?_)
  have bz1921 : gB z1921 (-2147483648) 2147483647 := gB_any z1921
  refine G_bipush 127 dr_cJ13_bitCount_95d88_57 (by decide +kernel) ?_
  refine G_iand dr_cJ13_bitCount_95d88_59 (G_nam fun z1922 hz1922 => ?_)
  have bz1922 : gB z1922 0 127 := gB_and hz1922 (gBl (show Int32.toInt 127 = 127 by decide)) (by decide)
  exact G_iretA dr_cJ13_bitCount_95d88_60 rfl (Nat.le_of_ble_eq_true rfl) (Nat.le_of_ble_eq_true rfl) ⟨z1922, rfl, rfl, (Nat.le_of_ble_eq_true rfl), (Nat.le_of_ble_eq_true rfl), bz1922, (fun R c1 => c1 u1905 u1906 u1907 u1908 u1909 u1910 u1911 u1912 u1913 u1914 u1915 u1916 u1917 u1918 u1919 u1920 z1921 z1922 hu1905 hu1906 hu1907 hu1908 hu1909 hu1910 hu1911 hu1912 hu1913 hu1914 hu1915 hu1916 hu1917 hu1918 hu1919 hu1920 hz1921 hz1922)⟩
/- tl_RModel_count_4: l2, l1; out: l1 -/
def tl_RModel_count_4 (a0_v : Nat → Int64) (s1 : Int32) (s2 : Int32) (k : Nat) (e1 : Int32) : Prop := ∀ R : (Int32) → (Int32) → Nat → (Int32) → Prop,
  (∀ (l2_1 : Int32) (l1_1 : Int32), gB l2_1 0 32 → 32 ≤ l2_1.toInt → R l2_1 l1_1 25 l1_1) →
  (∀ (l2_1 : Int32) (l1_1 : Int32) (x1 : Int64) (x2 : Int32) (x3 : Int32) (x4 : Int32) (k : Nat) (e1 : Int32), gB l2_1 0 32 → l2_1.toInt < 32 → x1 = a0_v l2_1.toNatClampNeg → gB x2 0 127 → tr_RLong_bitCount x1 x2 → x3 = l1_1 + x2 → x4.toInt = l2_1.toInt + 1 → R x4 x3 k e1 → R l2_1 l1_1 k e1) →
  R s1 s2 k e1
/- tr_RModel_count: result -/
def tr_RModel_count (a0_v : Nat → Int64) (o1 : Int32) : Prop := ∀ R : (Int32) → Prop,
  (∀ (x1 : Int32), tl_RModel_count_4 a0_v (0 : Int32) (0 : Int32) 25 x1 → R x1) →
  R o1
abbrev ky_1899_SpillForgeModel_count : gKey := (cX17_count, 3, "SpillForgeModel", (some FieldType.int), [], "count", fun _ _ => True)
def pp_1899_SpillForgeModel_count (D : va_G) (I : FieldType → ClassId) (P1895 : List Nat) (F1896 : Nat → va_E) (q1897 : Nat) (f1898 : Nat → Int64) : Option Value → va_W → Nat → Nat → Prop := fun r w dc ds => ∃ (o2029 : Int32), r = some (.int o2029) ∧ w = va_pl P1895 F1896 ∧ dc ≤ 0 ∧ ds ≤ 0 ∧ tr_RModel_count f1898 o2029
set_option maxRecDepth 100000 in
set_option maxHeartbeats 4000000 in
theorem cp_1899_SpillForgeModel_count (l : Launch) (hl0 : l.stackTraces = false) (D : va_G) (I : FieldType → ClassId) (P1895 : List Nat) (F1896 : Nat → va_E) (q1897 : Nat) (f1898 : Nat → Int64) (hmq1897 : q1897 ∈ P1895) (heq1897 : F1896 q1897 = .inl (I .long, 32, .inr (.inl f1898))) : CtA (gV D I) l yX17_count cX17_count 3 (some FieldType.int) 1 21 0 0 [.ref q1897] (va_pl P1895 F1896) (pp_1899_SpillForgeModel_count D I P1895 F1896 q1897 f1898) gNA := by
  refine CtA_of hl0 (by decide) (Nat.le_of_ble_eq_true rfl) ?_
  refine G_iconst 0 dr_cX17_count_0 (by decide +kernel) ?_
  refine G_istore_n (L' := [(1, .int 0), (0, .ref q1897)]) dr_cX17_count_1 (Nat.le_of_ble_eq_true rfl) rfl ?_
  refine G_iconst 0 dr_cX17_count_2 (by decide +kernel) ?_
  refine G_istore_n (L' := [(2, .int 0), (1, .int 0), (0, .ref q1897)]) dr_cX17_count_3 (Nat.le_of_ble_eq_true rfl) rfl ?_
  have hlp4_2014 : ∀ (n4_2014 : Nat) (g2013 : Int32) (g2014 : Int32), gB g2013 0 32 → (∀ (k : Nat) (e1 : Int32), tl_RModel_count_4 f1898 g2013 g2014 k e1 → tl_RModel_count_4 f1898 (0 : Int32) (0 : Int32) k e1) → ((33 : Int) - g2013.toInt).toNat < n4_2014 → G (gV D I) l (gRm 1 21 0 0) (gMA (gV D I) (pp_1899_SpillForgeModel_count D I P1895 F1896 q1897 f1898) gNA 0 0) ky_1899_SpillForgeModel_count 4 [(2, .int g2013), (1, .int g2014), (0, .ref q1897)] [] (va_pl P1895 F1896) 0 0 := by
    intro n4_2014
    induction n4_2014 with
    | zero => intro g2013 g2014 bg2013 kt4_2014 hm4_2014; exact absurd hm4_2014 (Nat.not_lt_zero _)
    | succ n4_2014 ih4_2014 =>
      intro g2013 g2014 bg2013 kt4_2014 hm4_2014
      have bg2014 := gB_any g2014
      refine G_iload_n 0 dr_cX17_count_4 rfl ?_
      refine G_aload_n 2 dr_cX17_count_5 rfl ?_
      refine Gp_alen 32 2 hmq1897 heq1897 dr_cX17_count_6 rfl rfl ?_
      refine G_icmp_ge 25 dr_cX17_count_7 (by decide +kernel) (fun hc2015 => ?_) (fun hc2015 => ?_)
      · have r2016 : 32 ≤ g2013.toInt := gj_leL hc2015 (show Int32.toInt 32 = 32 by decide)
        have bg2013' : gB g2013 32 32 := ⟨by omega, by omega⟩
        have hx2017 : tl_RModel_count_4 f1898 (0 : Int32) (0 : Int32) 25 g2014 := kt4_2014 25 g2014 (fun R c1 c2 => c1 g2013 g2014 bg2013 r2016)
        refine G_iload_n 1 dr_cX17_count_25 rfl ?_
        exact G_iretA dr_cX17_count_26 rfl (Nat.le_of_ble_eq_true rfl) (Nat.le_of_ble_eq_true rfl) ⟨g2014, rfl, rfl, (Nat.le_of_ble_eq_true rfl), (Nat.le_of_ble_eq_true rfl), (fun R c1 => c1 g2014 hx2017)⟩
      · have r2018 : g2013.toInt < 32 := gj_nleL hc2015 (show Int32.toInt 32 = 32 by decide)
        have bg2013' : gB g2013 0 31 := ⟨by omega, by omega⟩
        refine G_iload_n 1 dr_cX17_count_10 rfl ?_
        refine G_aload_n 2 dr_cX17_count_11 rfl ?_
        refine G_iload_n 0 dr_cX17_count_12 rfl ?_
        refine Gp_lald 2 hmq1897 heq1897 dr_cX17_count_13 rfl (gB_in bg2013' (by decide) (by decide)) (G_namL fun u2019 hu2019 => ?_)
        refine Gw_callS (As := [.long u2019]) (gV_ok D I) (cp_1904_Long_bitCount l hl0 D I P1895 F1896 u2019 ) dr_cX17_count_14 ⟨wr_11_19, wr_1_31, wr_4_95, by decide, rfl, (Nat.le_of_ble_eq_true rfl), (Nat.le_of_ble_eq_true rfl)⟩ wr_4_94 (show 0 + 0 ≤ 0 by first | omega | decide) (show 0 + 0 ≤ 0 by first | omega | decide) (Nat.le_of_ble_eq_true rfl) (fun r2023 w2024 dc2020 ds2021 hp2022 => ?_) (fun _ _ _ _ _ z => z.elim)
        obtain ⟨o2025, rfl, rfl, hdc, hds, bo2025, ht2026⟩ := hp2022
        change G _ _ _ _ _ _ _ (.int o2025 :: _) _ _ _
        refine G_widen (cs' := 0) (sl' := 0) (by omega) (by omega) ?_
        refine G_iadd dr_cX17_count_17 (G_nam fun z2027 hz2027 => ?_)
        have bz2027 : gB z2027 (-2147483648) 2147483647 := gB_any z2027
        refine G_istore_n (L' := [(1, .int z2027), (2, .int g2013), (0, .ref q1897)]) dr_cX17_count_18 (Nat.le_of_ble_eq_true rfl) rfl ?_
        obtain ⟨z2028, hz2028⟩ : ∃ z : Int32, z = g2013 + Int32.ofInt 1 := ⟨_, rfl⟩
        have ez2028 : z2028.toInt = g2013.toInt + 1 := gI_inc hz2028 (by decide) bg2013' (by decide) (by decide)
        have bz2028 : gB z2028 1 32 := ⟨by omega, by omega⟩
        refine G_iinc (L' := [(2, .int z2028), (1, .int z2027), (0, .ref q1897)]) z2028 1 dr_cX17_count_19 rfl hz2028.symm (Nat.le_of_ble_eq_true rfl) rfl ?_
        refine G_goto 4 dr_cX17_count_22 (by decide +kernel) ?_
        exact ih4_2014 z2028 z2027 (gB_w bz2028 (by decide) (by decide)) (fun k e1 ht => kt4_2014 k e1 (fun R c1 c2 => c2 g2013 g2014 u2019 o2025 z2027 z2028 k e1 bg2013 r2018 hu2019 bo2025 ht2026 hz2027 ez2028 (ht R c1 c2))) (by omega)
  exact hlp4_2014 (((33 : Int) - 0).toNat + 1) 0 0 (gB_w (gBl (show Int32.toInt 0 = 0 by decide)) (by decide) (by decide)) (fun k e1 ht => ht) (Nat.lt_succ_self _)
/- tr_RModel_result: result -/
def tr_RModel_result (a0 : Int32) (a1 : Int32) (a2 : Int32) (o1 : Int64) : Prop := ∀ R : (Int64) → Prop,
  (∀ (x1 : Int32) (x2 : Int64) (x3 : Int64), a0.toInt = 1 → x1 = a1 + a2 → x2 = x1.toInt64 → x3 = x2 &&& (4294967295 : Int64) → R x3) →
  (∀ (x1 : Int32) (x2 : Int64) (x3 : Int64), a0.toInt = 2 → x1 = a1 - a2 → x2 = x1.toInt64 → x3 = x2 &&& (4294967295 : Int64) → R x3) →
  (∀ (x1 : Int32) (x2 : Int64) (x3 : Int64), a0.toInt = 3 → x1 = a1 * a2 → x2 = x1.toInt64 → x3 = x2 &&& (4294967295 : Int64) → R x3) →
  (∀ (x1 : Int32) (x2 : Int64) (x3 : Int64), a0.toInt = 4 → a2.toInt ≠ 0 → x1 = a1 / a2 → x2 = x1.toInt64 → x3 = x2 &&& (4294967295 : Int64) → R x3) →
  (a0.toInt = 4 → a2.toInt = 0 → R (4294967296 : Int64)) →
  (∀ (x1 : Int32) (x2 : Int64) (x3 : Int64), a0.toInt = 5 → a2.toInt ≠ 0 → x1 = a1 - a1 / a2 * a2 → x2 = x1.toInt64 → x3 = x2 &&& (4294967295 : Int64) → R x3) →
  (a0.toInt = 5 → a2.toInt = 0 → R (4294967296 : Int64)) →
  (∀ (x1 : Int32) (x2 : Int64) (x3 : Int64), a0.toInt = 6 → x1 = a1 &&& a2 → x2 = x1.toInt64 → x3 = x2 &&& (4294967295 : Int64) → R x3) →
  (∀ (x1 : Int32) (x2 : Int64) (x3 : Int64), a0.toInt = 7 → x1 = a1 ||| a2 → x2 = x1.toInt64 → x3 = x2 &&& (4294967295 : Int64) → R x3) →
  (∀ (x1 : Int32) (x2 : Int64) (x3 : Int64), a0.toInt = 8 → x1 = a1 ^^^ a2 → x2 = x1.toInt64 → x3 = x2 &&& (4294967295 : Int64) → R x3) →
  (∀ (x1 : Int32) (x2 : Int32) (x3 : Int64) (x4 : Int64), a0.toInt = 9 → x1 = a2 &&& (31 : Int32) → x2 = a1 <<< (x1 &&& 31) → x3 = x2.toInt64 → x4 = x3 &&& (4294967295 : Int64) → R x4) →
  (∀ (x1 : Int32) (x2 : Int32) (x3 : Int64) (x4 : Int64), a0.toInt = 10 → x1 = a2 &&& (31 : Int32) → x2 = a1 >>> (x1 &&& 31) → x3 = x2.toInt64 → x4 = x3 &&& (4294967295 : Int64) → R x4) →
  (∀ (x1 : Int64) (x2 : Int64), a0.toInt = 11 → a2.toInt ≤ a1.toInt → x1 = (0 : Int32).toInt64 → x2 = x1 &&& (4294967295 : Int64) → R x2) →
  (∀ (x1 : Int64) (x2 : Int64), a0.toInt = 11 → a1.toInt < a2.toInt → x1 = (1 : Int32).toInt64 → x2 = x1 &&& (4294967295 : Int64) → R x2) →
  (∀ (x1 : Int64) (x2 : Int64), a0.toInt = 12 → a2.toInt < a1.toInt → x1 = (0 : Int32).toInt64 → x2 = x1 &&& (4294967295 : Int64) → R x2) →
  (∀ (x1 : Int64) (x2 : Int64), a0.toInt = 12 → a1.toInt ≤ a2.toInt → x1 = (1 : Int32).toInt64 → x2 = x1 &&& (4294967295 : Int64) → R x2) →
  (∀ (x1 : Int64) (x2 : Int64), a0.toInt = 13 → a1.toInt ≠ a2.toInt → x1 = (0 : Int32).toInt64 → x2 = x1 &&& (4294967295 : Int64) → R x2) →
  (∀ (x1 : Int64) (x2 : Int64), a0.toInt = 13 → a1.toInt = a2.toInt → x1 = (1 : Int32).toInt64 → x2 = x1 &&& (4294967295 : Int64) → R x2) →
  (∀ (x1 : Int64) (x2 : Int64), a0.toInt ≠ 1 → a0.toInt ≠ 2 → a0.toInt ≠ 3 → a0.toInt ≠ 4 → a0.toInt ≠ 5 → a0.toInt ≠ 6 → a0.toInt ≠ 7 → a0.toInt ≠ 8 → a0.toInt ≠ 9 → a0.toInt ≠ 10 → a0.toInt ≠ 11 → a0.toInt ≠ 12 → a0.toInt ≠ 13 → a1.toInt = a2.toInt → x1 = (0 : Int32).toInt64 → x2 = x1 &&& (4294967295 : Int64) → R x2) →
  (∀ (x1 : Int64) (x2 : Int64), a0.toInt ≠ 1 → a0.toInt ≠ 2 → a0.toInt ≠ 3 → a0.toInt ≠ 4 → a0.toInt ≠ 5 → a0.toInt ≠ 6 → a0.toInt ≠ 7 → a0.toInt ≠ 8 → a0.toInt ≠ 9 → a0.toInt ≠ 10 → a0.toInt ≠ 11 → a0.toInt ≠ 12 → a0.toInt ≠ 13 → a1.toInt ≠ a2.toInt → x1 = (1 : Int32).toInt64 → x2 = x1 &&& (4294967295 : Int64) → R x2) →
  R o1
end
section
theorem dr_cX17_result_0 : decode cX17_result 0 = .ok (.iload_n 0, 1) := by decide +kernel
theorem dr_cX17_result_1 : decode cX17_result 1 = .ok (.tableswitch 201 1 13 #[67, 74, 81, 88, 103, 118, 125, 132, 139, 149, 159, 173, 187], 67) := by decide +kernel
theorem dr_cX17_result_68 : decode cX17_result 68 = .ok (.iload_n 1, 1) := by decide +kernel
theorem dr_cX17_result_69 : decode cX17_result 69 = .ok (.iload_n 2, 1) := by decide +kernel
theorem dr_cX17_result_70 : decode cX17_result 70 = .ok (.iadd, 1) := by decide +kernel
theorem dr_cX17_result_71 : decode cX17_result 71 = .ok (.istore_n 3, 1) := by decide +kernel
theorem dr_cX17_result_72 : decode cX17_result 72 = .ok (.goto 141, 3) := by decide +kernel
theorem dr_cX17_result_213 : decode cX17_result 213 = .ok (.iload_n 3, 1) := by decide +kernel
theorem dr_cX17_result_214 : decode cX17_result 214 = .ok (.i2l, 1) := by decide +kernel
theorem dr_cX17_result_215 : decode cX17_result 215 = .ok (.ldc2_w 269, 3) := by decide +kernel
theorem wr_11_108 : (Jvm.Cond.constantLong "SpillForgeModel" (269 : Nat) (4294967295 : Int64)) ∈ gw := gw_11 108 rfl rfl
theorem dr_cX17_result_218 : decode cX17_result 218 = .ok (.land, 1) := by decide +kernel
theorem dr_cX17_result_219 : decode cX17_result 219 = .ok (.lreturn, 1) := by decide +kernel
theorem dr_cX17_result_75 : decode cX17_result 75 = .ok (.iload_n 1, 1) := by decide +kernel
theorem dr_cX17_result_76 : decode cX17_result 76 = .ok (.iload_n 2, 1) := by decide +kernel
theorem dr_cX17_result_77 : decode cX17_result 77 = .ok (.isub, 1) := by decide +kernel
theorem dr_cX17_result_78 : decode cX17_result 78 = .ok (.istore_n 3, 1) := by decide +kernel
theorem dr_cX17_result_79 : decode cX17_result 79 = .ok (.goto 134, 3) := by decide +kernel
theorem dr_cX17_result_82 : decode cX17_result 82 = .ok (.iload_n 1, 1) := by decide +kernel
theorem dr_cX17_result_83 : decode cX17_result 83 = .ok (.iload_n 2, 1) := by decide +kernel
theorem dr_cX17_result_84 : decode cX17_result 84 = .ok (.imul, 1) := by decide +kernel
theorem dr_cX17_result_85 : decode cX17_result 85 = .ok (.istore_n 3, 1) := by decide +kernel
theorem dr_cX17_result_86 : decode cX17_result 86 = .ok (.goto 127, 3) := by decide +kernel
theorem dr_cX17_result_89 : decode cX17_result 89 = .ok (.iload_n 2, 1) := by decide +kernel
theorem dr_cX17_result_90 : decode cX17_result 90 = .ok (.ifCond .ne 7, 3) := by decide +kernel
theorem dr_cX17_result_97 : decode cX17_result 97 = .ok (.iload_n 1, 1) := by decide +kernel
theorem dr_cX17_result_98 : decode cX17_result 98 = .ok (.iload_n 2, 1) := by decide +kernel
theorem dr_cX17_result_99 : decode cX17_result 99 = .ok (.idiv, 1) := by decide +kernel
theorem dr_cX17_result_100 : decode cX17_result 100 = .ok (.istore_n 3, 1) := by decide +kernel
theorem dr_cX17_result_101 : decode cX17_result 101 = .ok (.goto 112, 3) := by decide +kernel
theorem dr_cX17_result_93 : decode cX17_result 93 = .ok (.ldc2_w 267, 3) := by decide +kernel
theorem wr_11_107 : (Jvm.Cond.constantLong "SpillForgeModel" (267 : Nat) (4294967296 : Int64)) ∈ gw := gw_11 107 rfl rfl
theorem dr_cX17_result_96 : decode cX17_result 96 = .ok (.lreturn, 1) := by decide +kernel
theorem dr_cX17_result_104 : decode cX17_result 104 = .ok (.iload_n 2, 1) := by decide +kernel
theorem dr_cX17_result_105 : decode cX17_result 105 = .ok (.ifCond .ne 7, 3) := by decide +kernel
theorem dr_cX17_result_112 : decode cX17_result 112 = .ok (.iload_n 1, 1) := by decide +kernel
theorem dr_cX17_result_113 : decode cX17_result 113 = .ok (.iload_n 2, 1) := by decide +kernel
theorem dr_cX17_result_114 : decode cX17_result 114 = .ok (.irem, 1) := by decide +kernel
theorem dr_cX17_result_115 : decode cX17_result 115 = .ok (.istore_n 3, 1) := by decide +kernel
theorem dr_cX17_result_116 : decode cX17_result 116 = .ok (.goto 97, 3) := by decide +kernel
theorem dr_cX17_result_108 : decode cX17_result 108 = .ok (.ldc2_w 267, 3) := by decide +kernel
theorem dr_cX17_result_111 : decode cX17_result 111 = .ok (.lreturn, 1) := by decide +kernel
theorem dr_cX17_result_119 : decode cX17_result 119 = .ok (.iload_n 1, 1) := by decide +kernel
theorem dr_cX17_result_120 : decode cX17_result 120 = .ok (.iload_n 2, 1) := by decide +kernel
theorem dr_cX17_result_121 : decode cX17_result 121 = .ok (.iand, 1) := by decide +kernel
theorem dr_cX17_result_122 : decode cX17_result 122 = .ok (.istore_n 3, 1) := by decide +kernel
theorem dr_cX17_result_123 : decode cX17_result 123 = .ok (.goto 90, 3) := by decide +kernel
theorem dr_cX17_result_126 : decode cX17_result 126 = .ok (.iload_n 1, 1) := by decide +kernel
theorem dr_cX17_result_127 : decode cX17_result 127 = .ok (.iload_n 2, 1) := by decide +kernel
theorem dr_cX17_result_128 : decode cX17_result 128 = .ok (.ior, 1) := by decide +kernel
theorem dr_cX17_result_129 : decode cX17_result 129 = .ok (.istore_n 3, 1) := by decide +kernel
theorem dr_cX17_result_130 : decode cX17_result 130 = .ok (.goto 83, 3) := by decide +kernel
theorem dr_cX17_result_133 : decode cX17_result 133 = .ok (.iload_n 1, 1) := by decide +kernel
theorem dr_cX17_result_134 : decode cX17_result 134 = .ok (.iload_n 2, 1) := by decide +kernel
theorem dr_cX17_result_135 : decode cX17_result 135 = .ok (.ixor, 1) := by decide +kernel
theorem dr_cX17_result_136 : decode cX17_result 136 = .ok (.istore_n 3, 1) := by decide +kernel
theorem dr_cX17_result_137 : decode cX17_result 137 = .ok (.goto 76, 3) := by decide +kernel
theorem dr_cX17_result_140 : decode cX17_result 140 = .ok (.iload_n 1, 1) := by decide +kernel
theorem dr_cX17_result_141 : decode cX17_result 141 = .ok (.iload_n 2, 1) := by decide +kernel
theorem dr_cX17_result_142 : decode cX17_result 142 = .ok (.bipush 31, 2) := by decide +kernel
theorem dr_cX17_result_144 : decode cX17_result 144 = .ok (.iand, 1) := by decide +kernel
theorem dr_cX17_result_145 : decode cX17_result 145 = .ok (.ishl, 1) := by decide +kernel
theorem dr_cX17_result_146 : decode cX17_result 146 = .ok (.istore_n 3, 1) := by decide +kernel
theorem dr_cX17_result_147 : decode cX17_result 147 = .ok (.goto 66, 3) := by decide +kernel
theorem dr_cX17_result_150 : decode cX17_result 150 = .ok (.iload_n 1, 1) := by decide +kernel
theorem dr_cX17_result_151 : decode cX17_result 151 = .ok (.iload_n 2, 1) := by decide +kernel
theorem dr_cX17_result_152 : decode cX17_result 152 = .ok (.bipush 31, 2) := by decide +kernel
theorem dr_cX17_result_154 : decode cX17_result 154 = .ok (.iand, 1) := by decide +kernel
theorem dr_cX17_result_155 : decode cX17_result 155 = .ok (.ishr, 1) := by decide +kernel
theorem dr_cX17_result_156 : decode cX17_result 156 = .ok (.istore_n 3, 1) := by decide +kernel
theorem dr_cX17_result_157 : decode cX17_result 157 = .ok (.goto 56, 3) := by decide +kernel
theorem dr_cX17_result_160 : decode cX17_result 160 = .ok (.iload_n 1, 1) := by decide +kernel
theorem dr_cX17_result_161 : decode cX17_result 161 = .ok (.iload_n 2, 1) := by decide +kernel
theorem dr_cX17_result_162 : decode cX17_result 162 = .ok (.if_icmp .ge 7, 3) := by decide +kernel
theorem dr_cX17_result_169 : decode cX17_result 169 = .ok (.iconst 0, 1) := by decide +kernel
theorem dr_cX17_result_170 : decode cX17_result 170 = .ok (.istore_n 3, 1) := by decide +kernel
theorem dr_cX17_result_171 : decode cX17_result 171 = .ok (.goto 42, 3) := by decide +kernel
theorem dr_cX17_result_165 : decode cX17_result 165 = .ok (.iconst 1, 1) := by decide +kernel
theorem dr_cX17_result_166 : decode cX17_result 166 = .ok (.goto 4, 3) := by decide +kernel
theorem dr_cX17_result_174 : decode cX17_result 174 = .ok (.iload_n 1, 1) := by decide +kernel
theorem dr_cX17_result_175 : decode cX17_result 175 = .ok (.iload_n 2, 1) := by decide +kernel
theorem dr_cX17_result_176 : decode cX17_result 176 = .ok (.if_icmp .gt 7, 3) := by decide +kernel
theorem dr_cX17_result_183 : decode cX17_result 183 = .ok (.iconst 0, 1) := by decide +kernel
theorem dr_cX17_result_184 : decode cX17_result 184 = .ok (.istore_n 3, 1) := by decide +kernel
theorem dr_cX17_result_185 : decode cX17_result 185 = .ok (.goto 28, 3) := by decide +kernel
theorem dr_cX17_result_179 : decode cX17_result 179 = .ok (.iconst 1, 1) := by decide +kernel
theorem dr_cX17_result_180 : decode cX17_result 180 = .ok (.goto 4, 3) := by decide +kernel
theorem dr_cX17_result_188 : decode cX17_result 188 = .ok (.iload_n 1, 1) := by decide +kernel
theorem dr_cX17_result_189 : decode cX17_result 189 = .ok (.iload_n 2, 1) := by decide +kernel
theorem dr_cX17_result_190 : decode cX17_result 190 = .ok (.if_icmp .ne 7, 3) := by decide +kernel
theorem dr_cX17_result_197 : decode cX17_result 197 = .ok (.iconst 0, 1) := by decide +kernel
theorem dr_cX17_result_198 : decode cX17_result 198 = .ok (.istore_n 3, 1) := by decide +kernel
theorem dr_cX17_result_199 : decode cX17_result 199 = .ok (.goto 14, 3) := by decide +kernel
theorem dr_cX17_result_193 : decode cX17_result 193 = .ok (.iconst 1, 1) := by decide +kernel
theorem dr_cX17_result_194 : decode cX17_result 194 = .ok (.goto 4, 3) := by decide +kernel
theorem dr_cX17_result_202 : decode cX17_result 202 = .ok (.iload_n 1, 1) := by decide +kernel
theorem dr_cX17_result_203 : decode cX17_result 203 = .ok (.iload_n 2, 1) := by decide +kernel
theorem dr_cX17_result_204 : decode cX17_result 204 = .ok (.if_icmp .eq 7, 3) := by decide +kernel
theorem dr_cX17_result_211 : decode cX17_result 211 = .ok (.iconst 0, 1) := by decide +kernel
theorem dr_cX17_result_212 : decode cX17_result 212 = .ok (.istore_n 3, 1) := by decide +kernel
theorem dr_cX17_result_207 : decode cX17_result 207 = .ok (.iconst 1, 1) := by decide +kernel
theorem dr_cX17_result_208 : decode cX17_result 208 = .ok (.goto 4, 3) := by decide +kernel
theorem dr_cJ6_numberOfTrailingZeros_0f7a4_0 : decode cJ6_numberOfTrailingZeros_0f7a4 0 = .ok (.iload_n 0, 1) := by decide +kernel
theorem dr_cJ6_numberOfTrailingZeros_0f7a4_1 : decode cJ6_numberOfTrailingZeros_0f7a4 1 = .ok (.iconst (-1), 1) := by decide +kernel
theorem dr_cJ6_numberOfTrailingZeros_0f7a4_2 : decode cJ6_numberOfTrailingZeros_0f7a4 2 = .ok (.ixor, 1) := by decide +kernel
theorem dr_cJ6_numberOfTrailingZeros_0f7a4_3 : decode cJ6_numberOfTrailingZeros_0f7a4 3 = .ok (.iload_n 0, 1) := by decide +kernel
theorem dr_cJ6_numberOfTrailingZeros_0f7a4_4 : decode cJ6_numberOfTrailingZeros_0f7a4 4 = .ok (.iconst 1, 1) := by decide +kernel
theorem dr_cJ6_numberOfTrailingZeros_0f7a4_5 : decode cJ6_numberOfTrailingZeros_0f7a4 5 = .ok (.isub, 1) := by decide +kernel
theorem dr_cJ6_numberOfTrailingZeros_0f7a4_6 : decode cJ6_numberOfTrailingZeros_0f7a4 6 = .ok (.iand, 1) := by decide +kernel
theorem dr_cJ6_numberOfTrailingZeros_0f7a4_7 : decode cJ6_numberOfTrailingZeros_0f7a4 7 = .ok (.istore_n 0, 1) := by decide +kernel
theorem dr_cJ6_numberOfTrailingZeros_0f7a4_8 : decode cJ6_numberOfTrailingZeros_0f7a4 8 = .ok (.iload_n 0, 1) := by decide +kernel
theorem dr_cJ6_numberOfTrailingZeros_0f7a4_9 : decode cJ6_numberOfTrailingZeros_0f7a4 9 = .ok (.ifCond .gt 8, 3) := by decide +kernel
theorem dr_cJ6_numberOfTrailingZeros_0f7a4_17 : decode cJ6_numberOfTrailingZeros_0f7a4 17 = .ok (.iconst 1, 1) := by decide +kernel
theorem dr_cJ6_numberOfTrailingZeros_0f7a4_18 : decode cJ6_numberOfTrailingZeros_0f7a4 18 = .ok (.istore_n 1, 1) := by decide +kernel
theorem dr_cJ6_numberOfTrailingZeros_0f7a4_19 : decode cJ6_numberOfTrailingZeros_0f7a4 19 = .ok (.iload_n 0, 1) := by decide +kernel
theorem dr_cJ6_numberOfTrailingZeros_0f7a4_20 : decode cJ6_numberOfTrailingZeros_0f7a4 20 = .ok (.ldc_w 264, 3) := by decide +kernel
theorem wr_11_7 : (Jvm.Cond.constant "java/lang/Integer" (264 : Nat) (65536 : Int32)) ∈ gw := gw_11 7 rfl rfl
theorem dr_cJ6_numberOfTrailingZeros_0f7a4_23 : decode cJ6_numberOfTrailingZeros_0f7a4 23 = .ok (.if_icmp .le 11, 3) := by decide +kernel
theorem dr_cJ6_numberOfTrailingZeros_0f7a4_34 : decode cJ6_numberOfTrailingZeros_0f7a4 34 = .ok (.iload_n 0, 1) := by decide +kernel
theorem dr_cJ6_numberOfTrailingZeros_0f7a4_35 : decode cJ6_numberOfTrailingZeros_0f7a4 35 = .ok (.sipush 256, 3) := by decide +kernel
theorem dr_cJ6_numberOfTrailingZeros_0f7a4_38 : decode cJ6_numberOfTrailingZeros_0f7a4 38 = .ok (.if_icmp .le 11, 3) := by decide +kernel
theorem dr_cJ6_numberOfTrailingZeros_0f7a4_49 : decode cJ6_numberOfTrailingZeros_0f7a4 49 = .ok (.iload_n 0, 1) := by decide +kernel
theorem dr_cJ6_numberOfTrailingZeros_0f7a4_50 : decode cJ6_numberOfTrailingZeros_0f7a4 50 = .ok (.bipush 16, 2) := by decide +kernel
theorem dr_cJ6_numberOfTrailingZeros_0f7a4_52 : decode cJ6_numberOfTrailingZeros_0f7a4 52 = .ok (.if_icmp .le 10, 3) := by decide +kernel
theorem dr_cJ6_numberOfTrailingZeros_0f7a4_62 : decode cJ6_numberOfTrailingZeros_0f7a4 62 = .ok (.iload_n 0, 1) := by decide +kernel
theorem dr_cJ6_numberOfTrailingZeros_0f7a4_63 : decode cJ6_numberOfTrailingZeros_0f7a4 63 = .ok (.iconst 4, 1) := by decide +kernel
theorem dr_cJ6_numberOfTrailingZeros_0f7a4_64 : decode cJ6_numberOfTrailingZeros_0f7a4 64 = .ok (.if_icmp .le 10, 3) := by decide +kernel
theorem dr_cJ6_numberOfTrailingZeros_0f7a4_74 : decode cJ6_numberOfTrailingZeros_0f7a4 74 = .ok (.iload_n 1, 1) := by decide +kernel
theorem dr_cJ6_numberOfTrailingZeros_0f7a4_75 : decode cJ6_numberOfTrailingZeros_0f7a4 75 = .ok (.iload_n 0, 1) := by decide +kernel
theorem dr_cJ6_numberOfTrailingZeros_0f7a4_76 : decode cJ6_numberOfTrailingZeros_0f7a4 76 = .ok (.iconst 1, 1) := by decide +kernel
theorem dr_cJ6_numberOfTrailingZeros_0f7a4_77 : decode cJ6_numberOfTrailingZeros_0f7a4 77 = .ok (.iushr, 1) := by decide +kernel
theorem dr_cJ6_numberOfTrailingZeros_0f7a4_78 : decode cJ6_numberOfTrailingZeros_0f7a4 78 = .ok (.iadd, 1) := by decide +kernel
theorem dr_cJ6_numberOfTrailingZeros_0f7a4_79 : decode cJ6_numberOfTrailingZeros_0f7a4 79 = .ok (.ireturn, 1) := by decide +kernel
theorem dr_cJ6_numberOfTrailingZeros_0f7a4_67 : decode cJ6_numberOfTrailingZeros_0f7a4 67 = .ok (.iinc 1 2, 3) := by decide +kernel
theorem dr_cJ6_numberOfTrailingZeros_0f7a4_70 : decode cJ6_numberOfTrailingZeros_0f7a4 70 = .ok (.iload_n 0, 1) := by decide +kernel
theorem dr_cJ6_numberOfTrailingZeros_0f7a4_71 : decode cJ6_numberOfTrailingZeros_0f7a4 71 = .ok (.iconst 2, 1) := by decide +kernel
theorem dr_cJ6_numberOfTrailingZeros_0f7a4_72 : decode cJ6_numberOfTrailingZeros_0f7a4 72 = .ok (.iushr, 1) := by decide +kernel
theorem dr_cJ6_numberOfTrailingZeros_0f7a4_73 : decode cJ6_numberOfTrailingZeros_0f7a4 73 = .ok (.istore_n 0, 1) := by decide +kernel
theorem dr_cJ6_numberOfTrailingZeros_0f7a4_55 : decode cJ6_numberOfTrailingZeros_0f7a4 55 = .ok (.iinc 1 4, 3) := by decide +kernel
theorem dr_cJ6_numberOfTrailingZeros_0f7a4_58 : decode cJ6_numberOfTrailingZeros_0f7a4 58 = .ok (.iload_n 0, 1) := by decide +kernel
theorem dr_cJ6_numberOfTrailingZeros_0f7a4_59 : decode cJ6_numberOfTrailingZeros_0f7a4 59 = .ok (.iconst 4, 1) := by decide +kernel
theorem dr_cJ6_numberOfTrailingZeros_0f7a4_60 : decode cJ6_numberOfTrailingZeros_0f7a4 60 = .ok (.iushr, 1) := by decide +kernel
theorem dr_cJ6_numberOfTrailingZeros_0f7a4_61 : decode cJ6_numberOfTrailingZeros_0f7a4 61 = .ok (.istore_n 0, 1) := by decide +kernel
theorem dr_cJ6_numberOfTrailingZeros_0f7a4_41 : decode cJ6_numberOfTrailingZeros_0f7a4 41 = .ok (.iinc 1 8, 3) := by decide +kernel
theorem dr_cJ6_numberOfTrailingZeros_0f7a4_44 : decode cJ6_numberOfTrailingZeros_0f7a4 44 = .ok (.iload_n 0, 1) := by decide +kernel
theorem dr_cJ6_numberOfTrailingZeros_0f7a4_45 : decode cJ6_numberOfTrailingZeros_0f7a4 45 = .ok (.bipush 8, 2) := by decide +kernel
theorem dr_cJ6_numberOfTrailingZeros_0f7a4_47 : decode cJ6_numberOfTrailingZeros_0f7a4 47 = .ok (.iushr, 1) := by decide +kernel
theorem dr_cJ6_numberOfTrailingZeros_0f7a4_48 : decode cJ6_numberOfTrailingZeros_0f7a4 48 = .ok (.istore_n 0, 1) := by decide +kernel
theorem dr_cJ6_numberOfTrailingZeros_0f7a4_26 : decode cJ6_numberOfTrailingZeros_0f7a4 26 = .ok (.iinc 1 16, 3) := by decide +kernel
theorem dr_cJ6_numberOfTrailingZeros_0f7a4_29 : decode cJ6_numberOfTrailingZeros_0f7a4 29 = .ok (.iload_n 0, 1) := by decide +kernel
theorem dr_cJ6_numberOfTrailingZeros_0f7a4_30 : decode cJ6_numberOfTrailingZeros_0f7a4 30 = .ok (.bipush 16, 2) := by decide +kernel
theorem dr_cJ6_numberOfTrailingZeros_0f7a4_32 : decode cJ6_numberOfTrailingZeros_0f7a4 32 = .ok (.iushr, 1) := by decide +kernel
theorem dr_cJ6_numberOfTrailingZeros_0f7a4_33 : decode cJ6_numberOfTrailingZeros_0f7a4 33 = .ok (.istore_n 0, 1) := by decide +kernel
theorem dr_cJ6_numberOfTrailingZeros_0f7a4_12 : decode cJ6_numberOfTrailingZeros_0f7a4 12 = .ok (.iload_n 0, 1) := by decide +kernel
theorem dr_cJ6_numberOfTrailingZeros_0f7a4_13 : decode cJ6_numberOfTrailingZeros_0f7a4 13 = .ok (.bipush 32, 2) := by decide +kernel
theorem dr_cJ6_numberOfTrailingZeros_0f7a4_15 : decode cJ6_numberOfTrailingZeros_0f7a4 15 = .ok (.iand, 1) := by decide +kernel
theorem dr_cJ6_numberOfTrailingZeros_0f7a4_16 : decode cJ6_numberOfTrailingZeros_0f7a4 16 = .ok (.ireturn, 1) := by decide +kernel
abbrev ky_2035_SpillForgeModel_result : gKey := (cX17_result, 4, "SpillForgeModel", (some FieldType.long), [], "result", fun _ _ => True)
def pp_2035_SpillForgeModel_result (D : va_G) (I : FieldType → ClassId) (P2030 : List Nat) (F2031 : Nat → va_E) (p2032 : Int32) (p2033 : Int32) (p2034 : Int32) : Option Value → va_W → Nat → Nat → Prop := fun r w dc ds => ∃ (ol2115 : Int64), r = some (.long ol2115) ∧ w = va_pl P2030 F2031 ∧ dc ≤ 0 ∧ ds ≤ 0 ∧ tr_RModel_result p2032 p2033 p2034 ol2115
set_option maxRecDepth 100000 in
set_option maxHeartbeats 4000000 in
theorem cp_2035_SpillForgeModel_result (l : Launch) (hl0 : l.stackTraces = false) (D : va_G) (I : FieldType → ClassId) (P2030 : List Nat) (F2031 : Nat → va_E) (p2032 : Int32) (p2033 : Int32) (p2034 : Int32)  : CtA (gV D I) l yX17_result cX17_result 4 (some FieldType.long) 0 0 0 0 [.int p2032, .int p2033, .int p2034] (va_pl P2030 F2031) (pp_2035_SpillForgeModel_result D I P2030 F2031 p2032 p2033 p2034) gNA := by
  refine CtA_of hl0 (by decide) (Nat.le_of_ble_eq_true rfl) ?_
  have bp2032 := gB_any p2032
  have bp2033 := gB_any p2033
  have bp2034 := gB_any p2034
  refine G_iload_n 0 dr_cX17_result_0 rfl ?_
  by_cases hs2036 : p2032 = 1
  · have ehs2036 : p2032.toInt = 1 := gj_eq hs2036 (show Int32.toInt 1 = 1 by decide)
    have bp2032' : gB p2032 1 1 := ⟨by omega, by omega⟩
    refine G_eqi (y := 1) hs2036 ?_
    refine G_tableIn 68 dr_cX17_result_1 (by decide) (by decide) (by first | rfl | decide) (by decide) ?_
    refine G_iload_n 1 dr_cX17_result_68 rfl ?_
    refine G_iload_n 2 dr_cX17_result_69 rfl ?_
    refine G_iadd dr_cX17_result_70 (G_nam fun z2037 hz2037 => ?_)
    have bz2037 : gB z2037 (-2147483648) 2147483647 := gB_any z2037
    refine G_istore_n (L' := [(3, .int z2037), (0, .int p2032), (1, .int p2033), (2, .int p2034)]) dr_cX17_result_71 (Nat.le_of_ble_eq_true rfl) rfl ?_
    refine G_goto 213 dr_cX17_result_72 (by decide +kernel) ?_
    refine G_iload_n 0 dr_cX17_result_213 rfl ?_
    refine G_i2l dr_cX17_result_214 (G_namL fun u2038 hu2038 => ?_)
    refine G_ldc2 4294967295 dr_cX17_result_215 wr_11_108 ?_
    refine G_land dr_cX17_result_218 (G_namL fun u2039 hu2039 => ?_)
    exact G_lretA dr_cX17_result_219 rfl (Nat.le_of_ble_eq_true rfl) (Nat.le_of_ble_eq_true rfl) ⟨u2039, rfl, rfl, (Nat.le_of_ble_eq_true rfl), (Nat.le_of_ble_eq_true rfl), (fun R c1 c2 c3 c4 c5 c6 c7 c8 c9 c10 c11 c12 c13 c14 c15 c16 c17 c18 c19 c20 => c1 z2037 u2038 u2039 ehs2036 hz2037 hu2038 hu2039)⟩
  by_cases hs2040 : p2032 = 2
  · have ehs2040 : p2032.toInt = 2 := gj_eq hs2040 (show Int32.toInt 2 = 2 by decide)
    have bp2032' : gB p2032 2 2 := ⟨by omega, by omega⟩
    refine G_eqi (y := 2) hs2040 ?_
    refine G_tableIn 75 dr_cX17_result_1 (by decide) (by decide) (by first | rfl | decide) (by decide) ?_
    refine G_iload_n 1 dr_cX17_result_75 rfl ?_
    refine G_iload_n 2 dr_cX17_result_76 rfl ?_
    refine G_isub dr_cX17_result_77 (G_nam fun z2041 hz2041 => ?_)
    have bz2041 : gB z2041 (-2147483648) 2147483647 := gB_any z2041
    refine G_istore_n (L' := [(3, .int z2041), (0, .int p2032), (1, .int p2033), (2, .int p2034)]) dr_cX17_result_78 (Nat.le_of_ble_eq_true rfl) rfl ?_
    refine G_goto 213 dr_cX17_result_79 (by decide +kernel) ?_
    refine G_iload_n 0 dr_cX17_result_213 rfl ?_
    refine G_i2l dr_cX17_result_214 (G_namL fun u2042 hu2042 => ?_)
    refine G_ldc2 4294967295 dr_cX17_result_215 wr_11_108 ?_
    refine G_land dr_cX17_result_218 (G_namL fun u2043 hu2043 => ?_)
    exact G_lretA dr_cX17_result_219 rfl (Nat.le_of_ble_eq_true rfl) (Nat.le_of_ble_eq_true rfl) ⟨u2043, rfl, rfl, (Nat.le_of_ble_eq_true rfl), (Nat.le_of_ble_eq_true rfl), (fun R c1 c2 c3 c4 c5 c6 c7 c8 c9 c10 c11 c12 c13 c14 c15 c16 c17 c18 c19 c20 => c2 z2041 u2042 u2043 ehs2040 hz2041 hu2042 hu2043)⟩
  by_cases hs2044 : p2032 = 3
  · have ehs2044 : p2032.toInt = 3 := gj_eq hs2044 (show Int32.toInt 3 = 3 by decide)
    have bp2032' : gB p2032 3 3 := ⟨by omega, by omega⟩
    refine G_eqi (y := 3) hs2044 ?_
    refine G_tableIn 82 dr_cX17_result_1 (by decide) (by decide) (by first | rfl | decide) (by decide) ?_
    refine G_iload_n 1 dr_cX17_result_82 rfl ?_
    refine G_iload_n 2 dr_cX17_result_83 rfl ?_
    refine G_imul dr_cX17_result_84 (G_nam fun z2045 hz2045 => ?_)
    have bz2045 : gB z2045 (-2147483648) 2147483647 := gB_any z2045
    refine G_istore_n (L' := [(3, .int z2045), (0, .int p2032), (1, .int p2033), (2, .int p2034)]) dr_cX17_result_85 (Nat.le_of_ble_eq_true rfl) rfl ?_
    refine G_goto 213 dr_cX17_result_86 (by decide +kernel) ?_
    refine G_iload_n 0 dr_cX17_result_213 rfl ?_
    refine G_i2l dr_cX17_result_214 (G_namL fun u2046 hu2046 => ?_)
    refine G_ldc2 4294967295 dr_cX17_result_215 wr_11_108 ?_
    refine G_land dr_cX17_result_218 (G_namL fun u2047 hu2047 => ?_)
    exact G_lretA dr_cX17_result_219 rfl (Nat.le_of_ble_eq_true rfl) (Nat.le_of_ble_eq_true rfl) ⟨u2047, rfl, rfl, (Nat.le_of_ble_eq_true rfl), (Nat.le_of_ble_eq_true rfl), (fun R c1 c2 c3 c4 c5 c6 c7 c8 c9 c10 c11 c12 c13 c14 c15 c16 c17 c18 c19 c20 => c3 z2045 u2046 u2047 ehs2044 hz2045 hu2046 hu2047)⟩
  by_cases hs2048 : p2032 = 4
  · have ehs2048 : p2032.toInt = 4 := gj_eq hs2048 (show Int32.toInt 4 = 4 by decide)
    have bp2032' : gB p2032 4 4 := ⟨by omega, by omega⟩
    refine G_eqi (y := 4) hs2048 ?_
    refine G_tableIn 89 dr_cX17_result_1 (by decide) (by decide) (by first | rfl | decide) (by decide) ?_
    refine G_iload_n 2 dr_cX17_result_89 rfl ?_
    refine G_if_ne 97 dr_cX17_result_90 (by decide +kernel) (fun hc2049 => ?_) (fun hc2049 => ?_)
    · have r2050 : p2034.toInt ≠ 0 := gj_neq hc2049 (show Int32.toInt 0 = 0 by decide)
      refine G_iload_n 1 dr_cX17_result_97 rfl ?_
      refine G_iload_n 2 dr_cX17_result_98 rfl ?_
      refine G_idiv dr_cX17_result_99 hc2049 (G_nam fun z2051 hz2051 => ?_)
      have bz2051 : gB z2051 (-2147483648) 2147483647 := gB_any z2051
      refine G_istore_n (L' := [(3, .int z2051), (0, .int p2032), (1, .int p2033), (2, .int p2034)]) dr_cX17_result_100 (Nat.le_of_ble_eq_true rfl) rfl ?_
      refine G_goto 213 dr_cX17_result_101 (by decide +kernel) ?_
      refine G_iload_n 0 dr_cX17_result_213 rfl ?_
      refine G_i2l dr_cX17_result_214 (G_namL fun u2052 hu2052 => ?_)
      refine G_ldc2 4294967295 dr_cX17_result_215 wr_11_108 ?_
      refine G_land dr_cX17_result_218 (G_namL fun u2053 hu2053 => ?_)
      exact G_lretA dr_cX17_result_219 rfl (Nat.le_of_ble_eq_true rfl) (Nat.le_of_ble_eq_true rfl) ⟨u2053, rfl, rfl, (Nat.le_of_ble_eq_true rfl), (Nat.le_of_ble_eq_true rfl), (fun R c1 c2 c3 c4 c5 c6 c7 c8 c9 c10 c11 c12 c13 c14 c15 c16 c17 c18 c19 c20 => c4 z2051 u2052 u2053 ehs2048 r2050 hz2051 hu2052 hu2053)⟩
    · have r2054 : p2034.toInt = 0 := gj_eq hc2049 (show Int32.toInt 0 = 0 by decide)
      have bp2034' : gB p2034 0 0 := ⟨by omega, by omega⟩
      refine G_ldc2 4294967296 dr_cX17_result_93 wr_11_107 ?_
      exact G_lretA dr_cX17_result_96 rfl (Nat.le_of_ble_eq_true rfl) (Nat.le_of_ble_eq_true rfl) ⟨4294967296, rfl, rfl, (Nat.le_of_ble_eq_true rfl), (Nat.le_of_ble_eq_true rfl), (fun R c1 c2 c3 c4 c5 c6 c7 c8 c9 c10 c11 c12 c13 c14 c15 c16 c17 c18 c19 c20 => c5 ehs2048 r2054)⟩
  by_cases hs2055 : p2032 = 5
  · have ehs2055 : p2032.toInt = 5 := gj_eq hs2055 (show Int32.toInt 5 = 5 by decide)
    have bp2032' : gB p2032 5 5 := ⟨by omega, by omega⟩
    refine G_eqi (y := 5) hs2055 ?_
    refine G_tableIn 104 dr_cX17_result_1 (by decide) (by decide) (by first | rfl | decide) (by decide) ?_
    refine G_iload_n 2 dr_cX17_result_104 rfl ?_
    refine G_if_ne 112 dr_cX17_result_105 (by decide +kernel) (fun hc2056 => ?_) (fun hc2056 => ?_)
    · have r2057 : p2034.toInt ≠ 0 := gj_neq hc2056 (show Int32.toInt 0 = 0 by decide)
      refine G_iload_n 1 dr_cX17_result_112 rfl ?_
      refine G_iload_n 2 dr_cX17_result_113 rfl ?_
      refine G_irem dr_cX17_result_114 hc2056 (G_nam fun z2058 hz2058 => ?_)
      have bz2058 : gB z2058 (-2147483648) 2147483647 := gB_any z2058
      refine G_istore_n (L' := [(3, .int z2058), (0, .int p2032), (1, .int p2033), (2, .int p2034)]) dr_cX17_result_115 (Nat.le_of_ble_eq_true rfl) rfl ?_
      refine G_goto 213 dr_cX17_result_116 (by decide +kernel) ?_
      refine G_iload_n 0 dr_cX17_result_213 rfl ?_
      refine G_i2l dr_cX17_result_214 (G_namL fun u2059 hu2059 => ?_)
      refine G_ldc2 4294967295 dr_cX17_result_215 wr_11_108 ?_
      refine G_land dr_cX17_result_218 (G_namL fun u2060 hu2060 => ?_)
      exact G_lretA dr_cX17_result_219 rfl (Nat.le_of_ble_eq_true rfl) (Nat.le_of_ble_eq_true rfl) ⟨u2060, rfl, rfl, (Nat.le_of_ble_eq_true rfl), (Nat.le_of_ble_eq_true rfl), (fun R c1 c2 c3 c4 c5 c6 c7 c8 c9 c10 c11 c12 c13 c14 c15 c16 c17 c18 c19 c20 => c6 z2058 u2059 u2060 ehs2055 r2057 hz2058 hu2059 hu2060)⟩
    · have r2061 : p2034.toInt = 0 := gj_eq hc2056 (show Int32.toInt 0 = 0 by decide)
      have bp2034' : gB p2034 0 0 := ⟨by omega, by omega⟩
      refine G_ldc2 4294967296 dr_cX17_result_108 wr_11_107 ?_
      exact G_lretA dr_cX17_result_111 rfl (Nat.le_of_ble_eq_true rfl) (Nat.le_of_ble_eq_true rfl) ⟨4294967296, rfl, rfl, (Nat.le_of_ble_eq_true rfl), (Nat.le_of_ble_eq_true rfl), (fun R c1 c2 c3 c4 c5 c6 c7 c8 c9 c10 c11 c12 c13 c14 c15 c16 c17 c18 c19 c20 => c7 ehs2055 r2061)⟩
  by_cases hs2062 : p2032 = 6
  · have ehs2062 : p2032.toInt = 6 := gj_eq hs2062 (show Int32.toInt 6 = 6 by decide)
    have bp2032' : gB p2032 6 6 := ⟨by omega, by omega⟩
    refine G_eqi (y := 6) hs2062 ?_
    refine G_tableIn 119 dr_cX17_result_1 (by decide) (by decide) (by first | rfl | decide) (by decide) ?_
    refine G_iload_n 1 dr_cX17_result_119 rfl ?_
    refine G_iload_n 2 dr_cX17_result_120 rfl ?_
    refine G_iand dr_cX17_result_121 (G_nam fun z2063 hz2063 => ?_)
    have bz2063 : gB z2063 (-2147483648) 2147483647 := gB_any z2063
    refine G_istore_n (L' := [(3, .int z2063), (0, .int p2032), (1, .int p2033), (2, .int p2034)]) dr_cX17_result_122 (Nat.le_of_ble_eq_true rfl) rfl ?_
    refine G_goto 213 dr_cX17_result_123 (by decide +kernel) ?_
    refine G_iload_n 0 dr_cX17_result_213 rfl ?_
    refine G_i2l dr_cX17_result_214 (G_namL fun u2064 hu2064 => ?_)
    refine G_ldc2 4294967295 dr_cX17_result_215 wr_11_108 ?_
    refine G_land dr_cX17_result_218 (G_namL fun u2065 hu2065 => ?_)
    exact G_lretA dr_cX17_result_219 rfl (Nat.le_of_ble_eq_true rfl) (Nat.le_of_ble_eq_true rfl) ⟨u2065, rfl, rfl, (Nat.le_of_ble_eq_true rfl), (Nat.le_of_ble_eq_true rfl), (fun R c1 c2 c3 c4 c5 c6 c7 c8 c9 c10 c11 c12 c13 c14 c15 c16 c17 c18 c19 c20 => c8 z2063 u2064 u2065 ehs2062 hz2063 hu2064 hu2065)⟩
  by_cases hs2066 : p2032 = 7
  · have ehs2066 : p2032.toInt = 7 := gj_eq hs2066 (show Int32.toInt 7 = 7 by decide)
    have bp2032' : gB p2032 7 7 := ⟨by omega, by omega⟩
    refine G_eqi (y := 7) hs2066 ?_
    refine G_tableIn 126 dr_cX17_result_1 (by decide) (by decide) (by first | rfl | decide) (by decide) ?_
    refine G_iload_n 1 dr_cX17_result_126 rfl ?_
    refine G_iload_n 2 dr_cX17_result_127 rfl ?_
    refine G_ior dr_cX17_result_128 (G_nam fun z2067 hz2067 => ?_)
    have bz2067 : gB z2067 (-2147483648) 2147483647 := gB_any z2067
    refine G_istore_n (L' := [(3, .int z2067), (0, .int p2032), (1, .int p2033), (2, .int p2034)]) dr_cX17_result_129 (Nat.le_of_ble_eq_true rfl) rfl ?_
    refine G_goto 213 dr_cX17_result_130 (by decide +kernel) ?_
    refine G_iload_n 0 dr_cX17_result_213 rfl ?_
    refine G_i2l dr_cX17_result_214 (G_namL fun u2068 hu2068 => ?_)
    refine G_ldc2 4294967295 dr_cX17_result_215 wr_11_108 ?_
    refine G_land dr_cX17_result_218 (G_namL fun u2069 hu2069 => ?_)
    exact G_lretA dr_cX17_result_219 rfl (Nat.le_of_ble_eq_true rfl) (Nat.le_of_ble_eq_true rfl) ⟨u2069, rfl, rfl, (Nat.le_of_ble_eq_true rfl), (Nat.le_of_ble_eq_true rfl), (fun R c1 c2 c3 c4 c5 c6 c7 c8 c9 c10 c11 c12 c13 c14 c15 c16 c17 c18 c19 c20 => c9 z2067 u2068 u2069 ehs2066 hz2067 hu2068 hu2069)⟩
  by_cases hs2070 : p2032 = 8
  · have ehs2070 : p2032.toInt = 8 := gj_eq hs2070 (show Int32.toInt 8 = 8 by decide)
    have bp2032' : gB p2032 8 8 := ⟨by omega, by omega⟩
    refine G_eqi (y := 8) hs2070 ?_
    refine G_tableIn 133 dr_cX17_result_1 (by decide) (by decide) (by first | rfl | decide) (by decide) ?_
    refine G_iload_n 1 dr_cX17_result_133 rfl ?_
    refine G_iload_n 2 dr_cX17_result_134 rfl ?_
    refine G_ixor dr_cX17_result_135 (G_nam fun z2071 hz2071 => ?_)
    have bz2071 : gB z2071 (-2147483648) 2147483647 := gB_any z2071
    refine G_istore_n (L' := [(3, .int z2071), (0, .int p2032), (1, .int p2033), (2, .int p2034)]) dr_cX17_result_136 (Nat.le_of_ble_eq_true rfl) rfl ?_
    refine G_goto 213 dr_cX17_result_137 (by decide +kernel) ?_
    refine G_iload_n 0 dr_cX17_result_213 rfl ?_
    refine G_i2l dr_cX17_result_214 (G_namL fun u2072 hu2072 => ?_)
    refine G_ldc2 4294967295 dr_cX17_result_215 wr_11_108 ?_
    refine G_land dr_cX17_result_218 (G_namL fun u2073 hu2073 => ?_)
    exact G_lretA dr_cX17_result_219 rfl (Nat.le_of_ble_eq_true rfl) (Nat.le_of_ble_eq_true rfl) ⟨u2073, rfl, rfl, (Nat.le_of_ble_eq_true rfl), (Nat.le_of_ble_eq_true rfl), (fun R c1 c2 c3 c4 c5 c6 c7 c8 c9 c10 c11 c12 c13 c14 c15 c16 c17 c18 c19 c20 => c10 z2071 u2072 u2073 ehs2070 hz2071 hu2072 hu2073)⟩
  by_cases hs2074 : p2032 = 9
  · have ehs2074 : p2032.toInt = 9 := gj_eq hs2074 (show Int32.toInt 9 = 9 by decide)
    have bp2032' : gB p2032 9 9 := ⟨by omega, by omega⟩
    refine G_eqi (y := 9) hs2074 ?_
    refine G_tableIn 140 dr_cX17_result_1 (by decide) (by decide) (by first | rfl | decide) (by decide) ?_
    refine G_iload_n 1 dr_cX17_result_140 rfl ?_
    refine G_iload_n 2 dr_cX17_result_141 rfl ?_
    refine G_bipush 31 dr_cX17_result_142 (by decide +kernel) ?_
    refine G_iand dr_cX17_result_144 (G_nam fun z2075 hz2075 => ?_)
    have bz2075 : gB z2075 0 31 := gB_and hz2075 (gBl (show Int32.toInt 31 = 31 by decide)) (by decide)
    refine G_ishl dr_cX17_result_145 (G_nam fun z2076 hz2076 => ?_)
    have bz2076 : gB z2076 (-2147483648) 2147483647 := gB_any z2076
    refine G_istore_n (L' := [(3, .int z2076), (0, .int p2032), (1, .int p2033), (2, .int p2034)]) dr_cX17_result_146 (Nat.le_of_ble_eq_true rfl) rfl ?_
    refine G_goto 213 dr_cX17_result_147 (by decide +kernel) ?_
    refine G_iload_n 0 dr_cX17_result_213 rfl ?_
    refine G_i2l dr_cX17_result_214 (G_namL fun u2077 hu2077 => ?_)
    refine G_ldc2 4294967295 dr_cX17_result_215 wr_11_108 ?_
    refine G_land dr_cX17_result_218 (G_namL fun u2078 hu2078 => ?_)
    exact G_lretA dr_cX17_result_219 rfl (Nat.le_of_ble_eq_true rfl) (Nat.le_of_ble_eq_true rfl) ⟨u2078, rfl, rfl, (Nat.le_of_ble_eq_true rfl), (Nat.le_of_ble_eq_true rfl), (fun R c1 c2 c3 c4 c5 c6 c7 c8 c9 c10 c11 c12 c13 c14 c15 c16 c17 c18 c19 c20 => c11 z2075 z2076 u2077 u2078 ehs2074 hz2075 hz2076 hu2077 hu2078)⟩
  by_cases hs2079 : p2032 = 10
  · have ehs2079 : p2032.toInt = 10 := gj_eq hs2079 (show Int32.toInt 10 = 10 by decide)
    have bp2032' : gB p2032 10 10 := ⟨by omega, by omega⟩
    refine G_eqi (y := 10) hs2079 ?_
    refine G_tableIn 150 dr_cX17_result_1 (by decide) (by decide) (by first | rfl | decide) (by decide) ?_
    refine G_iload_n 1 dr_cX17_result_150 rfl ?_
    refine G_iload_n 2 dr_cX17_result_151 rfl ?_
    refine G_bipush 31 dr_cX17_result_152 (by decide +kernel) ?_
    refine G_iand dr_cX17_result_154 (G_nam fun z2080 hz2080 => ?_)
    have bz2080 : gB z2080 0 31 := gB_and hz2080 (gBl (show Int32.toInt 31 = 31 by decide)) (by decide)
    refine G_ishr dr_cX17_result_155 (G_nam fun z2081 hz2081 => ?_)
    have bz2081 : gB z2081 (-2147483648) 2147483647 := gB_any z2081
    refine G_istore_n (L' := [(3, .int z2081), (0, .int p2032), (1, .int p2033), (2, .int p2034)]) dr_cX17_result_156 (Nat.le_of_ble_eq_true rfl) rfl ?_
    refine G_goto 213 dr_cX17_result_157 (by decide +kernel) ?_
    refine G_iload_n 0 dr_cX17_result_213 rfl ?_
    refine G_i2l dr_cX17_result_214 (G_namL fun u2082 hu2082 => ?_)
    refine G_ldc2 4294967295 dr_cX17_result_215 wr_11_108 ?_
    refine G_land dr_cX17_result_218 (G_namL fun u2083 hu2083 => ?_)
    exact G_lretA dr_cX17_result_219 rfl (Nat.le_of_ble_eq_true rfl) (Nat.le_of_ble_eq_true rfl) ⟨u2083, rfl, rfl, (Nat.le_of_ble_eq_true rfl), (Nat.le_of_ble_eq_true rfl), (fun R c1 c2 c3 c4 c5 c6 c7 c8 c9 c10 c11 c12 c13 c14 c15 c16 c17 c18 c19 c20 => c12 z2080 z2081 u2082 u2083 ehs2079 hz2080 hz2081 hu2082 hu2083)⟩
  by_cases hs2084 : p2032 = 11
  · have ehs2084 : p2032.toInt = 11 := gj_eq hs2084 (show Int32.toInt 11 = 11 by decide)
    have bp2032' : gB p2032 11 11 := ⟨by omega, by omega⟩
    refine G_eqi (y := 11) hs2084 ?_
    refine G_tableIn 160 dr_cX17_result_1 (by decide) (by decide) (by first | rfl | decide) (by decide) ?_
    refine G_iload_n 1 dr_cX17_result_160 rfl ?_
    refine G_iload_n 2 dr_cX17_result_161 rfl ?_
    refine G_icmp_ge 169 dr_cX17_result_162 (by decide +kernel) (fun hc2085 => ?_) (fun hc2085 => ?_)
    · have r2086 : p2034.toInt ≤ p2033.toInt := gC_le hc2085
      refine G_iconst 0 dr_cX17_result_169 (by decide +kernel) ?_
      refine G_istore_n (L' := [(3, .int 0), (0, .int p2032), (1, .int p2033), (2, .int p2034)]) dr_cX17_result_170 (Nat.le_of_ble_eq_true rfl) rfl ?_
      refine G_goto 213 dr_cX17_result_171 (by decide +kernel) ?_
      refine G_iload_n 0 dr_cX17_result_213 rfl ?_
      refine G_i2l dr_cX17_result_214 (G_namL fun u2087 hu2087 => ?_)
      refine G_ldc2 4294967295 dr_cX17_result_215 wr_11_108 ?_
      refine G_land dr_cX17_result_218 (G_namL fun u2088 hu2088 => ?_)
      exact G_lretA dr_cX17_result_219 rfl (Nat.le_of_ble_eq_true rfl) (Nat.le_of_ble_eq_true rfl) ⟨u2088, rfl, rfl, (Nat.le_of_ble_eq_true rfl), (Nat.le_of_ble_eq_true rfl), (fun R c1 c2 c3 c4 c5 c6 c7 c8 c9 c10 c11 c12 c13 c14 c15 c16 c17 c18 c19 c20 => c13 u2087 u2088 ehs2084 r2086 hu2087 hu2088)⟩
    · have r2089 : p2033.toInt < p2034.toInt := gC_nle hc2085
      have bp2033' : gB p2033 (-2147483648) 2147483646 := ⟨by omega, by omega⟩
      have bp2034' : gB p2034 (-2147483647) 2147483647 := ⟨by omega, by omega⟩
      refine G_iconst 1 dr_cX17_result_165 (by decide +kernel) ?_
      refine G_goto 170 dr_cX17_result_166 (by decide +kernel) ?_
      refine G_istore_n (L' := [(3, .int 1), (0, .int p2032), (1, .int p2033), (2, .int p2034)]) dr_cX17_result_170 (Nat.le_of_ble_eq_true rfl) rfl ?_
      refine G_goto 213 dr_cX17_result_171 (by decide +kernel) ?_
      refine G_iload_n 0 dr_cX17_result_213 rfl ?_
      refine G_i2l dr_cX17_result_214 (G_namL fun u2090 hu2090 => ?_)
      refine G_ldc2 4294967295 dr_cX17_result_215 wr_11_108 ?_
      refine G_land dr_cX17_result_218 (G_namL fun u2091 hu2091 => ?_)
      exact G_lretA dr_cX17_result_219 rfl (Nat.le_of_ble_eq_true rfl) (Nat.le_of_ble_eq_true rfl) ⟨u2091, rfl, rfl, (Nat.le_of_ble_eq_true rfl), (Nat.le_of_ble_eq_true rfl), (fun R c1 c2 c3 c4 c5 c6 c7 c8 c9 c10 c11 c12 c13 c14 c15 c16 c17 c18 c19 c20 => c14 u2090 u2091 ehs2084 r2089 hu2090 hu2091)⟩
  by_cases hs2092 : p2032 = 12
  · have ehs2092 : p2032.toInt = 12 := gj_eq hs2092 (show Int32.toInt 12 = 12 by decide)
    have bp2032' : gB p2032 12 12 := ⟨by omega, by omega⟩
    refine G_eqi (y := 12) hs2092 ?_
    refine G_tableIn 174 dr_cX17_result_1 (by decide) (by decide) (by first | rfl | decide) (by decide) ?_
    refine G_iload_n 1 dr_cX17_result_174 rfl ?_
    refine G_iload_n 2 dr_cX17_result_175 rfl ?_
    refine G_icmp_gt 183 dr_cX17_result_176 (by decide +kernel) (fun hc2093 => ?_) (fun hc2093 => ?_)
    · have r2094 : p2034.toInt < p2033.toInt := gC_lt hc2093
      have bp2034' : gB p2034 (-2147483648) 2147483646 := ⟨by omega, by omega⟩
      have bp2033' : gB p2033 (-2147483647) 2147483647 := ⟨by omega, by omega⟩
      refine G_iconst 0 dr_cX17_result_183 (by decide +kernel) ?_
      refine G_istore_n (L' := [(3, .int 0), (0, .int p2032), (1, .int p2033), (2, .int p2034)]) dr_cX17_result_184 (Nat.le_of_ble_eq_true rfl) rfl ?_
      refine G_goto 213 dr_cX17_result_185 (by decide +kernel) ?_
      refine G_iload_n 0 dr_cX17_result_213 rfl ?_
      refine G_i2l dr_cX17_result_214 (G_namL fun u2095 hu2095 => ?_)
      refine G_ldc2 4294967295 dr_cX17_result_215 wr_11_108 ?_
      refine G_land dr_cX17_result_218 (G_namL fun u2096 hu2096 => ?_)
      exact G_lretA dr_cX17_result_219 rfl (Nat.le_of_ble_eq_true rfl) (Nat.le_of_ble_eq_true rfl) ⟨u2096, rfl, rfl, (Nat.le_of_ble_eq_true rfl), (Nat.le_of_ble_eq_true rfl), (fun R c1 c2 c3 c4 c5 c6 c7 c8 c9 c10 c11 c12 c13 c14 c15 c16 c17 c18 c19 c20 => c15 u2095 u2096 ehs2092 r2094 hu2095 hu2096)⟩
    · have r2097 : p2033.toInt ≤ p2034.toInt := gC_nlt hc2093
      refine G_iconst 1 dr_cX17_result_179 (by decide +kernel) ?_
      refine G_goto 184 dr_cX17_result_180 (by decide +kernel) ?_
      refine G_istore_n (L' := [(3, .int 1), (0, .int p2032), (1, .int p2033), (2, .int p2034)]) dr_cX17_result_184 (Nat.le_of_ble_eq_true rfl) rfl ?_
      refine G_goto 213 dr_cX17_result_185 (by decide +kernel) ?_
      refine G_iload_n 0 dr_cX17_result_213 rfl ?_
      refine G_i2l dr_cX17_result_214 (G_namL fun u2098 hu2098 => ?_)
      refine G_ldc2 4294967295 dr_cX17_result_215 wr_11_108 ?_
      refine G_land dr_cX17_result_218 (G_namL fun u2099 hu2099 => ?_)
      exact G_lretA dr_cX17_result_219 rfl (Nat.le_of_ble_eq_true rfl) (Nat.le_of_ble_eq_true rfl) ⟨u2099, rfl, rfl, (Nat.le_of_ble_eq_true rfl), (Nat.le_of_ble_eq_true rfl), (fun R c1 c2 c3 c4 c5 c6 c7 c8 c9 c10 c11 c12 c13 c14 c15 c16 c17 c18 c19 c20 => c16 u2098 u2099 ehs2092 r2097 hu2098 hu2099)⟩
  by_cases hs2100 : p2032 = 13
  · have ehs2100 : p2032.toInt = 13 := gj_eq hs2100 (show Int32.toInt 13 = 13 by decide)
    have bp2032' : gB p2032 13 13 := ⟨by omega, by omega⟩
    refine G_eqi (y := 13) hs2100 ?_
    refine G_tableIn 188 dr_cX17_result_1 (by decide) (by decide) (by first | rfl | decide) (by decide) ?_
    refine G_iload_n 1 dr_cX17_result_188 rfl ?_
    refine G_iload_n 2 dr_cX17_result_189 rfl ?_
    refine G_icmp_ne 197 dr_cX17_result_190 (by decide +kernel) (fun hc2101 => ?_) (fun hc2101 => ?_)
    · have r2102 : p2033.toInt ≠ p2034.toInt := gC_ne hc2101
      refine G_iconst 0 dr_cX17_result_197 (by decide +kernel) ?_
      refine G_istore_n (L' := [(3, .int 0), (0, .int p2032), (1, .int p2033), (2, .int p2034)]) dr_cX17_result_198 (Nat.le_of_ble_eq_true rfl) rfl ?_
      refine G_goto 213 dr_cX17_result_199 (by decide +kernel) ?_
      refine G_iload_n 0 dr_cX17_result_213 rfl ?_
      refine G_i2l dr_cX17_result_214 (G_namL fun u2103 hu2103 => ?_)
      refine G_ldc2 4294967295 dr_cX17_result_215 wr_11_108 ?_
      refine G_land dr_cX17_result_218 (G_namL fun u2104 hu2104 => ?_)
      exact G_lretA dr_cX17_result_219 rfl (Nat.le_of_ble_eq_true rfl) (Nat.le_of_ble_eq_true rfl) ⟨u2104, rfl, rfl, (Nat.le_of_ble_eq_true rfl), (Nat.le_of_ble_eq_true rfl), (fun R c1 c2 c3 c4 c5 c6 c7 c8 c9 c10 c11 c12 c13 c14 c15 c16 c17 c18 c19 c20 => c17 u2103 u2104 ehs2100 r2102 hu2103 hu2104)⟩
    · have r2105 : p2033.toInt = p2034.toInt := gC_eq hc2101
      refine G_iconst 1 dr_cX17_result_193 (by decide +kernel) ?_
      refine G_goto 198 dr_cX17_result_194 (by decide +kernel) ?_
      refine G_istore_n (L' := [(3, .int 1), (0, .int p2032), (1, .int p2033), (2, .int p2034)]) dr_cX17_result_198 (Nat.le_of_ble_eq_true rfl) rfl ?_
      refine G_goto 213 dr_cX17_result_199 (by decide +kernel) ?_
      refine G_iload_n 0 dr_cX17_result_213 rfl ?_
      refine G_i2l dr_cX17_result_214 (G_namL fun u2106 hu2106 => ?_)
      refine G_ldc2 4294967295 dr_cX17_result_215 wr_11_108 ?_
      refine G_land dr_cX17_result_218 (G_namL fun u2107 hu2107 => ?_)
      exact G_lretA dr_cX17_result_219 rfl (Nat.le_of_ble_eq_true rfl) (Nat.le_of_ble_eq_true rfl) ⟨u2107, rfl, rfl, (Nat.le_of_ble_eq_true rfl), (Nat.le_of_ble_eq_true rfl), (fun R c1 c2 c3 c4 c5 c6 c7 c8 c9 c10 c11 c12 c13 c14 c15 c16 c17 c18 c19 c20 => c18 u2106 u2107 ehs2100 r2105 hu2106 hu2107)⟩
  have ehs2036 := lv_neT hs2036 (show Int32.toInt 1 = 1 by decide)
  have ehs2040 := lv_neT hs2040 (show Int32.toInt 2 = 2 by decide)
  have ehs2044 := lv_neT hs2044 (show Int32.toInt 3 = 3 by decide)
  have ehs2048 := lv_neT hs2048 (show Int32.toInt 4 = 4 by decide)
  have ehs2055 := lv_neT hs2055 (show Int32.toInt 5 = 5 by decide)
  have ehs2062 := lv_neT hs2062 (show Int32.toInt 6 = 6 by decide)
  have ehs2066 := lv_neT hs2066 (show Int32.toInt 7 = 7 by decide)
  have ehs2070 := lv_neT hs2070 (show Int32.toInt 8 = 8 by decide)
  have ehs2074 := lv_neT hs2074 (show Int32.toInt 9 = 9 by decide)
  have ehs2079 := lv_neT hs2079 (show Int32.toInt 10 = 10 by decide)
  have ehs2084 := lv_neT hs2084 (show Int32.toInt 11 = 11 by decide)
  have ehs2092 := lv_neT hs2092 (show Int32.toInt 12 = 12 by decide)
  have ehs2100 := lv_neT hs2100 (show Int32.toInt 13 = 13 by decide)
  refine G_tableOut 202 dr_cX17_result_1 (by omega) (by decide) ?_
  refine G_iload_n 1 dr_cX17_result_202 rfl ?_
  refine G_iload_n 2 dr_cX17_result_203 rfl ?_
  refine G_icmp_eq 211 dr_cX17_result_204 (by decide +kernel) (fun hc2108 => ?_) (fun hc2108 => ?_)
  · have r2109 : p2033.toInt = p2034.toInt := gC_eq hc2108
    refine G_iconst 0 dr_cX17_result_211 (by decide +kernel) ?_
    refine G_istore_n (L' := [(3, .int 0), (0, .int p2032), (1, .int p2033), (2, .int p2034)]) dr_cX17_result_212 (Nat.le_of_ble_eq_true rfl) rfl ?_
    refine G_iload_n 0 dr_cX17_result_213 rfl ?_
    refine G_i2l dr_cX17_result_214 (G_namL fun u2110 hu2110 => ?_)
    refine G_ldc2 4294967295 dr_cX17_result_215 wr_11_108 ?_
    refine G_land dr_cX17_result_218 (G_namL fun u2111 hu2111 => ?_)
    exact G_lretA dr_cX17_result_219 rfl (Nat.le_of_ble_eq_true rfl) (Nat.le_of_ble_eq_true rfl) ⟨u2111, rfl, rfl, (Nat.le_of_ble_eq_true rfl), (Nat.le_of_ble_eq_true rfl), (fun R c1 c2 c3 c4 c5 c6 c7 c8 c9 c10 c11 c12 c13 c14 c15 c16 c17 c18 c19 c20 => c19 u2110 u2111 ehs2036 ehs2040 ehs2044 ehs2048 ehs2055 ehs2062 ehs2066 ehs2070 ehs2074 ehs2079 ehs2084 ehs2092 ehs2100 r2109 hu2110 hu2111)⟩
  · have r2112 : p2033.toInt ≠ p2034.toInt := gC_ne hc2108
    refine G_iconst 1 dr_cX17_result_207 (by decide +kernel) ?_
    refine G_goto 212 dr_cX17_result_208 (by decide +kernel) ?_
    refine G_istore_n (L' := [(3, .int 1), (0, .int p2032), (1, .int p2033), (2, .int p2034)]) dr_cX17_result_212 (Nat.le_of_ble_eq_true rfl) rfl ?_
    refine G_iload_n 0 dr_cX17_result_213 rfl ?_
    refine G_i2l dr_cX17_result_214 (G_namL fun u2113 hu2113 => ?_)
    refine G_ldc2 4294967295 dr_cX17_result_215 wr_11_108 ?_
    refine G_land dr_cX17_result_218 (G_namL fun u2114 hu2114 => ?_)
    exact G_lretA dr_cX17_result_219 rfl (Nat.le_of_ble_eq_true rfl) (Nat.le_of_ble_eq_true rfl) ⟨u2114, rfl, rfl, (Nat.le_of_ble_eq_true rfl), (Nat.le_of_ble_eq_true rfl), (fun R c1 c2 c3 c4 c5 c6 c7 c8 c9 c10 c11 c12 c13 c14 c15 c16 c17 c18 c19 c20 => c20 u2113 u2114 ehs2036 ehs2040 ehs2044 ehs2048 ehs2055 ehs2062 ehs2066 ehs2070 ehs2074 ehs2079 ehs2084 ehs2092 ehs2100 r2112 hu2113 hu2114)⟩
/- tr_RInteger_numberOfTrailingZeros: result -/
def tr_RInteger_numberOfTrailingZeros (a0 : Int32) (o1 : Int32) : Prop := ∀ R : (Int32) → Prop,
  (∀ (x1 : Int32) (x2 : Int32) (x3 : Int32) (x4 : Int32) (x5 : Int32), x1 = a0 ^^^ (-1 : Int32) → x2 = a0 - (1 : Int32) → x3 = x1 &&& x2 → 0 < x3.toInt → x3.toInt ≤ 65536 → x3.toInt ≤ 256 → x3.toInt ≤ 16 → x3.toInt ≤ 4 → x4 = (x3.toUInt32 >>> ((1 : Int32).toUInt32 &&& Int32.toUInt32 31)).toInt32 → x5 = (1 : Int32) + x4 → R x5) →
  (∀ (x1 : Int32) (x2 : Int32) (x3 : Int32) (x4 : Int32) (x5 : Int32) (x6 : Int32), x1 = a0 ^^^ (-1 : Int32) → x2 = a0 - (1 : Int32) → x3 = x1 &&& x2 → 0 < x3.toInt → x3.toInt ≤ 65536 → x3.toInt ≤ 256 → x3.toInt ≤ 16 → 4 < x3.toInt → x4 = (x3.toUInt32 >>> ((2 : Int32).toUInt32 &&& Int32.toUInt32 31)).toInt32 → x5 = (x4.toUInt32 >>> ((1 : Int32).toUInt32 &&& Int32.toUInt32 31)).toInt32 → x6 = (3 : Int32) + x5 → R x6) →
  (∀ (x1 : Int32) (x2 : Int32) (x3 : Int32) (x4 : Int32) (x5 : Int32) (x6 : Int32), x1 = a0 ^^^ (-1 : Int32) → x2 = a0 - (1 : Int32) → x3 = x1 &&& x2 → 0 < x3.toInt → x3.toInt ≤ 65536 → x3.toInt ≤ 256 → 16 < x3.toInt → x4 = (x3.toUInt32 >>> ((4 : Int32).toUInt32 &&& Int32.toUInt32 31)).toInt32 → x4.toInt ≤ 4 → x5 = (x4.toUInt32 >>> ((1 : Int32).toUInt32 &&& Int32.toUInt32 31)).toInt32 → x6 = (5 : Int32) + x5 → R x6) →
  (∀ (x1 : Int32) (x2 : Int32) (x3 : Int32) (x4 : Int32) (x5 : Int32) (x6 : Int32) (x7 : Int32), x1 = a0 ^^^ (-1 : Int32) → x2 = a0 - (1 : Int32) → x3 = x1 &&& x2 → 0 < x3.toInt → x3.toInt ≤ 65536 → x3.toInt ≤ 256 → 16 < x3.toInt → x4 = (x3.toUInt32 >>> ((4 : Int32).toUInt32 &&& Int32.toUInt32 31)).toInt32 → 4 < x4.toInt → x5 = (x4.toUInt32 >>> ((2 : Int32).toUInt32 &&& Int32.toUInt32 31)).toInt32 → x6 = (x5.toUInt32 >>> ((1 : Int32).toUInt32 &&& Int32.toUInt32 31)).toInt32 → x7 = (7 : Int32) + x6 → R x7) →
  (∀ (x1 : Int32) (x2 : Int32) (x3 : Int32) (x4 : Int32) (x5 : Int32) (x6 : Int32), x1 = a0 ^^^ (-1 : Int32) → x2 = a0 - (1 : Int32) → x3 = x1 &&& x2 → 0 < x3.toInt → x3.toInt ≤ 65536 → 256 < x3.toInt → x4 = (x3.toUInt32 >>> ((8 : Int32).toUInt32 &&& Int32.toUInt32 31)).toInt32 → x4.toInt ≤ 16 → x4.toInt ≤ 4 → x5 = (x4.toUInt32 >>> ((1 : Int32).toUInt32 &&& Int32.toUInt32 31)).toInt32 → x6 = (9 : Int32) + x5 → R x6) →
  (∀ (x1 : Int32) (x2 : Int32) (x3 : Int32) (x4 : Int32) (x5 : Int32) (x6 : Int32) (x7 : Int32), x1 = a0 ^^^ (-1 : Int32) → x2 = a0 - (1 : Int32) → x3 = x1 &&& x2 → 0 < x3.toInt → x3.toInt ≤ 65536 → 256 < x3.toInt → x4 = (x3.toUInt32 >>> ((8 : Int32).toUInt32 &&& Int32.toUInt32 31)).toInt32 → x4.toInt ≤ 16 → 4 < x4.toInt → x5 = (x4.toUInt32 >>> ((2 : Int32).toUInt32 &&& Int32.toUInt32 31)).toInt32 → x6 = (x5.toUInt32 >>> ((1 : Int32).toUInt32 &&& Int32.toUInt32 31)).toInt32 → x7 = (11 : Int32) + x6 → R x7) →
  (∀ (x1 : Int32) (x2 : Int32) (x3 : Int32) (x4 : Int32) (x5 : Int32) (x6 : Int32) (x7 : Int32), x1 = a0 ^^^ (-1 : Int32) → x2 = a0 - (1 : Int32) → x3 = x1 &&& x2 → 0 < x3.toInt → x3.toInt ≤ 65536 → 256 < x3.toInt → x4 = (x3.toUInt32 >>> ((8 : Int32).toUInt32 &&& Int32.toUInt32 31)).toInt32 → 16 < x4.toInt → x5 = (x4.toUInt32 >>> ((4 : Int32).toUInt32 &&& Int32.toUInt32 31)).toInt32 → x5.toInt ≤ 4 → x6 = (x5.toUInt32 >>> ((1 : Int32).toUInt32 &&& Int32.toUInt32 31)).toInt32 → x7 = (13 : Int32) + x6 → R x7) →
  (∀ (x1 : Int32) (x2 : Int32) (x3 : Int32) (x4 : Int32) (x5 : Int32) (x6 : Int32) (x7 : Int32) (x8 : Int32), x1 = a0 ^^^ (-1 : Int32) → x2 = a0 - (1 : Int32) → x3 = x1 &&& x2 → 0 < x3.toInt → x3.toInt ≤ 65536 → 256 < x3.toInt → x4 = (x3.toUInt32 >>> ((8 : Int32).toUInt32 &&& Int32.toUInt32 31)).toInt32 → 16 < x4.toInt → x5 = (x4.toUInt32 >>> ((4 : Int32).toUInt32 &&& Int32.toUInt32 31)).toInt32 → 4 < x5.toInt → x6 = (x5.toUInt32 >>> ((2 : Int32).toUInt32 &&& Int32.toUInt32 31)).toInt32 → x7 = (x6.toUInt32 >>> ((1 : Int32).toUInt32 &&& Int32.toUInt32 31)).toInt32 → x8 = (15 : Int32) + x7 → R x8) →
  (∀ (x1 : Int32) (x2 : Int32) (x3 : Int32) (x4 : Int32) (x5 : Int32) (x6 : Int32), x1 = a0 ^^^ (-1 : Int32) → x2 = a0 - (1 : Int32) → x3 = x1 &&& x2 → 0 < x3.toInt → 65536 < x3.toInt → x4 = (x3.toUInt32 >>> ((16 : Int32).toUInt32 &&& Int32.toUInt32 31)).toInt32 → x4.toInt ≤ 256 → x4.toInt ≤ 16 → x4.toInt ≤ 4 → x5 = (x4.toUInt32 >>> ((1 : Int32).toUInt32 &&& Int32.toUInt32 31)).toInt32 → x6 = (17 : Int32) + x5 → R x6) →
  (∀ (x1 : Int32) (x2 : Int32) (x3 : Int32) (x4 : Int32) (x5 : Int32) (x6 : Int32) (x7 : Int32), x1 = a0 ^^^ (-1 : Int32) → x2 = a0 - (1 : Int32) → x3 = x1 &&& x2 → 0 < x3.toInt → 65536 < x3.toInt → x4 = (x3.toUInt32 >>> ((16 : Int32).toUInt32 &&& Int32.toUInt32 31)).toInt32 → x4.toInt ≤ 256 → x4.toInt ≤ 16 → 4 < x4.toInt → x5 = (x4.toUInt32 >>> ((2 : Int32).toUInt32 &&& Int32.toUInt32 31)).toInt32 → x6 = (x5.toUInt32 >>> ((1 : Int32).toUInt32 &&& Int32.toUInt32 31)).toInt32 → x7 = (19 : Int32) + x6 → R x7) →
  (∀ (x1 : Int32) (x2 : Int32) (x3 : Int32) (x4 : Int32) (x5 : Int32) (x6 : Int32) (x7 : Int32), x1 = a0 ^^^ (-1 : Int32) → x2 = a0 - (1 : Int32) → x3 = x1 &&& x2 → 0 < x3.toInt → 65536 < x3.toInt → x4 = (x3.toUInt32 >>> ((16 : Int32).toUInt32 &&& Int32.toUInt32 31)).toInt32 → x4.toInt ≤ 256 → 16 < x4.toInt → x5 = (x4.toUInt32 >>> ((4 : Int32).toUInt32 &&& Int32.toUInt32 31)).toInt32 → x5.toInt ≤ 4 → x6 = (x5.toUInt32 >>> ((1 : Int32).toUInt32 &&& Int32.toUInt32 31)).toInt32 → x7 = (21 : Int32) + x6 → R x7) →
  (∀ (x1 : Int32) (x2 : Int32) (x3 : Int32) (x4 : Int32) (x5 : Int32) (x6 : Int32) (x7 : Int32) (x8 : Int32), x1 = a0 ^^^ (-1 : Int32) → x2 = a0 - (1 : Int32) → x3 = x1 &&& x2 → 0 < x3.toInt → 65536 < x3.toInt → x4 = (x3.toUInt32 >>> ((16 : Int32).toUInt32 &&& Int32.toUInt32 31)).toInt32 → x4.toInt ≤ 256 → 16 < x4.toInt → x5 = (x4.toUInt32 >>> ((4 : Int32).toUInt32 &&& Int32.toUInt32 31)).toInt32 → 4 < x5.toInt → x6 = (x5.toUInt32 >>> ((2 : Int32).toUInt32 &&& Int32.toUInt32 31)).toInt32 → x7 = (x6.toUInt32 >>> ((1 : Int32).toUInt32 &&& Int32.toUInt32 31)).toInt32 → x8 = (23 : Int32) + x7 → R x8) →
  (∀ (x1 : Int32) (x2 : Int32) (x3 : Int32) (x4 : Int32) (x5 : Int32) (x6 : Int32) (x7 : Int32), x1 = a0 ^^^ (-1 : Int32) → x2 = a0 - (1 : Int32) → x3 = x1 &&& x2 → 0 < x3.toInt → 65536 < x3.toInt → x4 = (x3.toUInt32 >>> ((16 : Int32).toUInt32 &&& Int32.toUInt32 31)).toInt32 → 256 < x4.toInt → x5 = (x4.toUInt32 >>> ((8 : Int32).toUInt32 &&& Int32.toUInt32 31)).toInt32 → x5.toInt ≤ 16 → x5.toInt ≤ 4 → x6 = (x5.toUInt32 >>> ((1 : Int32).toUInt32 &&& Int32.toUInt32 31)).toInt32 → x7 = (25 : Int32) + x6 → R x7) →
  (∀ (x1 : Int32) (x2 : Int32) (x3 : Int32) (x4 : Int32) (x5 : Int32) (x6 : Int32) (x7 : Int32) (x8 : Int32), x1 = a0 ^^^ (-1 : Int32) → x2 = a0 - (1 : Int32) → x3 = x1 &&& x2 → 0 < x3.toInt → 65536 < x3.toInt → x4 = (x3.toUInt32 >>> ((16 : Int32).toUInt32 &&& Int32.toUInt32 31)).toInt32 → 256 < x4.toInt → x5 = (x4.toUInt32 >>> ((8 : Int32).toUInt32 &&& Int32.toUInt32 31)).toInt32 → x5.toInt ≤ 16 → 4 < x5.toInt → x6 = (x5.toUInt32 >>> ((2 : Int32).toUInt32 &&& Int32.toUInt32 31)).toInt32 → x7 = (x6.toUInt32 >>> ((1 : Int32).toUInt32 &&& Int32.toUInt32 31)).toInt32 → x8 = (27 : Int32) + x7 → R x8) →
  (∀ (x1 : Int32) (x2 : Int32) (x3 : Int32) (x4 : Int32) (x5 : Int32) (x6 : Int32) (x7 : Int32) (x8 : Int32), x1 = a0 ^^^ (-1 : Int32) → x2 = a0 - (1 : Int32) → x3 = x1 &&& x2 → 0 < x3.toInt → 65536 < x3.toInt → x4 = (x3.toUInt32 >>> ((16 : Int32).toUInt32 &&& Int32.toUInt32 31)).toInt32 → 256 < x4.toInt → x5 = (x4.toUInt32 >>> ((8 : Int32).toUInt32 &&& Int32.toUInt32 31)).toInt32 → 16 < x5.toInt → x6 = (x5.toUInt32 >>> ((4 : Int32).toUInt32 &&& Int32.toUInt32 31)).toInt32 → x6.toInt ≤ 4 → x7 = (x6.toUInt32 >>> ((1 : Int32).toUInt32 &&& Int32.toUInt32 31)).toInt32 → x8 = (29 : Int32) + x7 → R x8) →
  (∀ (x1 : Int32) (x2 : Int32) (x3 : Int32) (x4 : Int32) (x5 : Int32) (x6 : Int32) (x7 : Int32) (x8 : Int32) (x9 : Int32), x1 = a0 ^^^ (-1 : Int32) → x2 = a0 - (1 : Int32) → x3 = x1 &&& x2 → 0 < x3.toInt → 65536 < x3.toInt → x4 = (x3.toUInt32 >>> ((16 : Int32).toUInt32 &&& Int32.toUInt32 31)).toInt32 → 256 < x4.toInt → x5 = (x4.toUInt32 >>> ((8 : Int32).toUInt32 &&& Int32.toUInt32 31)).toInt32 → 16 < x5.toInt → x6 = (x5.toUInt32 >>> ((4 : Int32).toUInt32 &&& Int32.toUInt32 31)).toInt32 → 4 < x6.toInt → x7 = (x6.toUInt32 >>> ((2 : Int32).toUInt32 &&& Int32.toUInt32 31)).toInt32 → x8 = (x7.toUInt32 >>> ((1 : Int32).toUInt32 &&& Int32.toUInt32 31)).toInt32 → x9 = (31 : Int32) + x8 → R x9) →
  (∀ (x1 : Int32) (x2 : Int32) (x3 : Int32) (x4 : Int32), x1 = a0 ^^^ (-1 : Int32) → x2 = a0 - (1 : Int32) → x3 = x1 &&& x2 → x3.toInt ≤ 0 → x4 = x3 &&& (32 : Int32) → R x4) →
  R o1
abbrev ky_2126_Integer_numberOfTrailingZeros : gKey := (cJ6_numberOfTrailingZeros_0f7a4, 2, "java/lang/Integer", (some FieldType.int), [], "numberOfTrailingZeros", fun _ _ => True)
def pp_2126_Integer_numberOfTrailingZeros (D : va_G) (I : FieldType → ClassId) (P2123 : List Nat) (F2124 : Nat → va_E) (p2125 : Int32) : Option Value → va_W → Nat → Nat → Prop := fun r w dc ds => ∃ (o2226 : Int32), r = some (.int o2226) ∧ w = va_pl P2123 F2124 ∧ dc ≤ 0 ∧ ds ≤ 0 ∧ tr_RInteger_numberOfTrailingZeros p2125 o2226
set_option maxRecDepth 100000 in
set_option maxHeartbeats 4000000 in
theorem cp_2126_Integer_numberOfTrailingZeros (l : Launch) (hl0 : l.stackTraces = false) (D : va_G) (I : FieldType → ClassId) (P2123 : List Nat) (F2124 : Nat → va_E) (p2125 : Int32)  : CtA (gV D I) l yJ6_numberOfTrailingZeros_0f7a4 cJ6_numberOfTrailingZeros_0f7a4 2 (some FieldType.int) 0 0 0 0 [.int p2125] (va_pl P2123 F2124) (pp_2126_Integer_numberOfTrailingZeros D I P2123 F2124 p2125) gNA := by
  refine CtA_ofF hl0 (by decide +kernel) (Nat.le_of_ble_eq_true rfl) ?_
  have bp2125 := gB_any p2125
  refine G_iload_n 0 dr_cJ6_numberOfTrailingZeros_0f7a4_0 rfl ?_
  refine G_iconst (-1) dr_cJ6_numberOfTrailingZeros_0f7a4_1 (by decide +kernel) ?_
  refine G_ixor dr_cJ6_numberOfTrailingZeros_0f7a4_2 (G_nam fun z2127 hz2127 => ?_)
  have bz2127 : gB z2127 (-2147483648) 2147483647 := gB_any z2127
  refine G_iload_n 0 dr_cJ6_numberOfTrailingZeros_0f7a4_3 rfl ?_
  refine G_iconst 1 dr_cJ6_numberOfTrailingZeros_0f7a4_4 (by decide +kernel) ?_
  refine G_isub dr_cJ6_numberOfTrailingZeros_0f7a4_5 (G_nam fun z2128 hz2128 => ?_)
  have bz2128 : gB z2128 (-2147483648) 2147483647 := gB_any z2128
  refine G_iand dr_cJ6_numberOfTrailingZeros_0f7a4_6 (G_nam fun z2129 hz2129 => ?_)
  have bz2129 : gB z2129 (-2147483648) 2147483647 := gB_any z2129
  refine G_istore_n (L' := [(0, .int z2129)]) dr_cJ6_numberOfTrailingZeros_0f7a4_7 (Nat.le_of_ble_eq_true rfl) rfl ?_
  refine G_iload_n 0 dr_cJ6_numberOfTrailingZeros_0f7a4_8 rfl ?_
  refine G_if_gt 17 dr_cJ6_numberOfTrailingZeros_0f7a4_9 (by decide +kernel) (fun hc2130 => ?_) (fun hc2130 => ?_)
  · have r2131 : 0 < z2129.toInt := gj_ltL hc2130 (show Int32.toInt 0 = 0 by decide)
    have bz2129' : gB z2129 1 2147483647 := ⟨by omega, by omega⟩
    refine G_iconst 1 dr_cJ6_numberOfTrailingZeros_0f7a4_17 (by decide +kernel) ?_
    refine G_istore_n (L' := [(1, .int 1), (0, .int z2129)]) dr_cJ6_numberOfTrailingZeros_0f7a4_18 (Nat.le_of_ble_eq_true rfl) rfl ?_
    refine G_iload_n 1 dr_cJ6_numberOfTrailingZeros_0f7a4_19 rfl ?_
    refine G_ldcw 65536 dr_cJ6_numberOfTrailingZeros_0f7a4_20 wr_11_7 ?_
    refine G_icmp_le 34 dr_cJ6_numberOfTrailingZeros_0f7a4_23 (by decide +kernel) (fun hc2132 => ?_) (fun hc2132 => ?_)
    · have r2133 : z2129.toInt ≤ 65536 := gj_le hc2132 (show Int32.toInt 65536 = 65536 by decide)
      have bz2129'' : gB z2129 1 65536 := ⟨by omega, by omega⟩
      refine G_iload_n 1 dr_cJ6_numberOfTrailingZeros_0f7a4_34 rfl ?_
      refine G_sipush 256 dr_cJ6_numberOfTrailingZeros_0f7a4_35 (by decide +kernel) ?_
      refine G_icmp_le 49 dr_cJ6_numberOfTrailingZeros_0f7a4_38 (by decide +kernel) (fun hc2134 => ?_) (fun hc2134 => ?_)
      · have r2135 : z2129.toInt ≤ 256 := gj_le hc2134 (show Int32.toInt 256 = 256 by decide)
        have bz2129''' : gB z2129 1 256 := ⟨by omega, by omega⟩
        refine G_iload_n 1 dr_cJ6_numberOfTrailingZeros_0f7a4_49 rfl ?_
        refine G_bipush 16 dr_cJ6_numberOfTrailingZeros_0f7a4_50 (by decide +kernel) ?_
        refine G_icmp_le 62 dr_cJ6_numberOfTrailingZeros_0f7a4_52 (by decide +kernel) (fun hc2136 => ?_) (fun hc2136 => ?_)
        · have r2137 : z2129.toInt ≤ 16 := gj_le hc2136 (show Int32.toInt 16 = 16 by decide)
          have bz2129'''' : gB z2129 1 16 := ⟨by omega, by omega⟩
          refine G_iload_n 1 dr_cJ6_numberOfTrailingZeros_0f7a4_62 rfl ?_
          refine G_iconst 4 dr_cJ6_numberOfTrailingZeros_0f7a4_63 (by decide +kernel) ?_
          refine G_icmp_le 74 dr_cJ6_numberOfTrailingZeros_0f7a4_64 (by decide +kernel) (fun hc2138 => ?_) (fun hc2138 => ?_)
          · have r2139 : z2129.toInt ≤ 4 := gj_le hc2138 (show Int32.toInt 4 = 4 by decide)
            have bz2129''''' : gB z2129 1 4 := ⟨by omega, by omega⟩
            refine G_iload_n 0 dr_cJ6_numberOfTrailingZeros_0f7a4_74 rfl ?_
            refine G_iload_n 1 dr_cJ6_numberOfTrailingZeros_0f7a4_75 rfl ?_
            refine G_iconst 1 dr_cJ6_numberOfTrailingZeros_0f7a4_76 (by decide +kernel) ?_
            refine G_iushr dr_cJ6_numberOfTrailingZeros_0f7a4_77 (G_nam fun z2140 hz2140 => ?_)
            have bz2140 : gB z2140 (-2147483648) 2147483647 := gB_any z2140
            refine G_iadd dr_cJ6_numberOfTrailingZeros_0f7a4_78 (G_nam fun z2141 hz2141 => ?_)
            have bz2141 : gB z2141 (-2147483648) 2147483647 := gB_any z2141
            exact G_iretA dr_cJ6_numberOfTrailingZeros_0f7a4_79 rfl (Nat.le_of_ble_eq_true rfl) (Nat.le_of_ble_eq_true rfl) ⟨z2141, rfl, rfl, (Nat.le_of_ble_eq_true rfl), (Nat.le_of_ble_eq_true rfl), (fun R c1 c2 c3 c4 c5 c6 c7 c8 c9 c10 c11 c12 c13 c14 c15 c16 c17 => c1 z2127 z2128 z2129 z2140 z2141 hz2127 hz2128 hz2129 r2131 r2133 r2135 r2137 r2139 hz2140 hz2141)⟩
          · have r2142 : 4 < z2129.toInt := gj_nle hc2138 (show Int32.toInt 4 = 4 by decide)
            have bz2129''''' : gB z2129 5 16 := ⟨by omega, by omega⟩
            refine G_iinc (L' := [(1, .int 3), (0, .int z2129)]) (3) 0 dr_cJ6_numberOfTrailingZeros_0f7a4_67 rfl (by decide) (Nat.le_of_ble_eq_true rfl) rfl ?_
            refine G_iload_n 1 dr_cJ6_numberOfTrailingZeros_0f7a4_70 rfl ?_
            refine G_iconst 2 dr_cJ6_numberOfTrailingZeros_0f7a4_71 (by decide +kernel) ?_
            refine G_iushr dr_cJ6_numberOfTrailingZeros_0f7a4_72 (G_nam fun z2143 hz2143 => ?_)
            have bz2143 : gB z2143 (-2147483648) 2147483647 := gB_any z2143
            refine G_istore_n (L' := [(0, .int z2143), (1, .int 3)]) dr_cJ6_numberOfTrailingZeros_0f7a4_73 (Nat.le_of_ble_eq_true rfl) rfl ?_
            refine G_iload_n 1 dr_cJ6_numberOfTrailingZeros_0f7a4_74 rfl ?_
            refine G_iload_n 0 dr_cJ6_numberOfTrailingZeros_0f7a4_75 rfl ?_
            refine G_iconst 1 dr_cJ6_numberOfTrailingZeros_0f7a4_76 (by decide +kernel) ?_
            refine G_iushr dr_cJ6_numberOfTrailingZeros_0f7a4_77 (G_nam fun z2144 hz2144 => ?_)
            have bz2144 : gB z2144 (-2147483648) 2147483647 := gB_any z2144
            refine G_iadd dr_cJ6_numberOfTrailingZeros_0f7a4_78 (G_nam fun z2145 hz2145 => ?_)
            have bz2145 : gB z2145 (-2147483648) 2147483647 := gB_any z2145
            exact G_iretA dr_cJ6_numberOfTrailingZeros_0f7a4_79 rfl (Nat.le_of_ble_eq_true rfl) (Nat.le_of_ble_eq_true rfl) ⟨z2145, rfl, rfl, (Nat.le_of_ble_eq_true rfl), (Nat.le_of_ble_eq_true rfl), (fun R c1 c2 c3 c4 c5 c6 c7 c8 c9 c10 c11 c12 c13 c14 c15 c16 c17 => c2 z2127 z2128 z2129 z2143 z2144 z2145 hz2127 hz2128 hz2129 r2131 r2133 r2135 r2137 r2142 hz2143 hz2144 hz2145)⟩
        · have r2146 : 16 < z2129.toInt := gj_nle hc2136 (show Int32.toInt 16 = 16 by decide)
          have bz2129'''' : gB z2129 17 256 := ⟨by omega, by omega⟩
          refine G_iinc (L' := [(1, .int 5), (0, .int z2129)]) (5) 0 dr_cJ6_numberOfTrailingZeros_0f7a4_55 rfl (by decide) (Nat.le_of_ble_eq_true rfl) rfl ?_
          refine G_iload_n 1 dr_cJ6_numberOfTrailingZeros_0f7a4_58 rfl ?_
          refine G_iconst 4 dr_cJ6_numberOfTrailingZeros_0f7a4_59 (by decide +kernel) ?_
          refine G_iushr dr_cJ6_numberOfTrailingZeros_0f7a4_60 (G_nam fun z2147 hz2147 => ?_)
          have bz2147 : gB z2147 (-2147483648) 2147483647 := gB_any z2147
          refine G_istore_n (L' := [(0, .int z2147), (1, .int 5)]) dr_cJ6_numberOfTrailingZeros_0f7a4_61 (Nat.le_of_ble_eq_true rfl) rfl ?_
          refine G_iload_n 0 dr_cJ6_numberOfTrailingZeros_0f7a4_62 rfl ?_
          refine G_iconst 4 dr_cJ6_numberOfTrailingZeros_0f7a4_63 (by decide +kernel) ?_
          refine G_icmp_le 74 dr_cJ6_numberOfTrailingZeros_0f7a4_64 (by decide +kernel) (fun hc2148 => ?_) (fun hc2148 => ?_)
          · have r2149 : z2147.toInt ≤ 4 := gj_le hc2148 (show Int32.toInt 4 = 4 by decide)
            have bz2147' : gB z2147 (-2147483648) 4 := ⟨by omega, by omega⟩
            refine G_iload_n 1 dr_cJ6_numberOfTrailingZeros_0f7a4_74 rfl ?_
            refine G_iload_n 0 dr_cJ6_numberOfTrailingZeros_0f7a4_75 rfl ?_
            refine G_iconst 1 dr_cJ6_numberOfTrailingZeros_0f7a4_76 (by decide +kernel) ?_
            refine G_iushr dr_cJ6_numberOfTrailingZeros_0f7a4_77 (G_nam fun z2150 hz2150 => ?_)
            have bz2150 : gB z2150 (-2147483648) 2147483647 := gB_any z2150
            refine G_iadd dr_cJ6_numberOfTrailingZeros_0f7a4_78 (G_nam fun z2151 hz2151 => ?_)
            have bz2151 : gB z2151 (-2147483648) 2147483647 := gB_any z2151
            exact G_iretA dr_cJ6_numberOfTrailingZeros_0f7a4_79 rfl (Nat.le_of_ble_eq_true rfl) (Nat.le_of_ble_eq_true rfl) ⟨z2151, rfl, rfl, (Nat.le_of_ble_eq_true rfl), (Nat.le_of_ble_eq_true rfl), (fun R c1 c2 c3 c4 c5 c6 c7 c8 c9 c10 c11 c12 c13 c14 c15 c16 c17 => c3 z2127 z2128 z2129 z2147 z2150 z2151 hz2127 hz2128 hz2129 r2131 r2133 r2135 r2146 hz2147 r2149 hz2150 hz2151)⟩
          · have r2152 : 4 < z2147.toInt := gj_nle hc2148 (show Int32.toInt 4 = 4 by decide)
            have bz2147' : gB z2147 5 2147483647 := ⟨by omega, by omega⟩
            refine G_iinc (L' := [(1, .int 7), (0, .int z2147)]) (7) 1 dr_cJ6_numberOfTrailingZeros_0f7a4_67 rfl (by decide) (Nat.le_of_ble_eq_true rfl) rfl ?_
            refine G_iload_n 1 dr_cJ6_numberOfTrailingZeros_0f7a4_70 rfl ?_
            refine G_iconst 2 dr_cJ6_numberOfTrailingZeros_0f7a4_71 (by decide +kernel) ?_
            refine G_iushr dr_cJ6_numberOfTrailingZeros_0f7a4_72 (G_nam fun z2153 hz2153 => ?_)
            have bz2153 : gB z2153 (-2147483648) 2147483647 := gB_any z2153
            refine G_istore_n (L' := [(0, .int z2153), (1, .int 7)]) dr_cJ6_numberOfTrailingZeros_0f7a4_73 (Nat.le_of_ble_eq_true rfl) rfl ?_
            refine G_iload_n 1 dr_cJ6_numberOfTrailingZeros_0f7a4_74 rfl ?_
            refine G_iload_n 0 dr_cJ6_numberOfTrailingZeros_0f7a4_75 rfl ?_
            refine G_iconst 1 dr_cJ6_numberOfTrailingZeros_0f7a4_76 (by decide +kernel) ?_
            refine G_iushr dr_cJ6_numberOfTrailingZeros_0f7a4_77 (G_nam fun z2154 hz2154 => ?_)
            have bz2154 : gB z2154 (-2147483648) 2147483647 := gB_any z2154
            refine G_iadd dr_cJ6_numberOfTrailingZeros_0f7a4_78 (G_nam fun z2155 hz2155 => ?_)
            have bz2155 : gB z2155 (-2147483648) 2147483647 := gB_any z2155
            exact G_iretA dr_cJ6_numberOfTrailingZeros_0f7a4_79 rfl (Nat.le_of_ble_eq_true rfl) (Nat.le_of_ble_eq_true rfl) ⟨z2155, rfl, rfl, (Nat.le_of_ble_eq_true rfl), (Nat.le_of_ble_eq_true rfl), (fun R c1 c2 c3 c4 c5 c6 c7 c8 c9 c10 c11 c12 c13 c14 c15 c16 c17 => c4 z2127 z2128 z2129 z2147 z2153 z2154 z2155 hz2127 hz2128 hz2129 r2131 r2133 r2135 r2146 hz2147 r2152 hz2153 hz2154 hz2155)⟩
      · have r2156 : 256 < z2129.toInt := gj_nle hc2134 (show Int32.toInt 256 = 256 by decide)
        have bz2129''' : gB z2129 257 65536 := ⟨by omega, by omega⟩
        refine G_iinc (L' := [(1, .int 9), (0, .int z2129)]) (9) 0 dr_cJ6_numberOfTrailingZeros_0f7a4_41 rfl (by decide) (Nat.le_of_ble_eq_true rfl) rfl ?_
        refine G_iload_n 1 dr_cJ6_numberOfTrailingZeros_0f7a4_44 rfl ?_
        refine G_bipush 8 dr_cJ6_numberOfTrailingZeros_0f7a4_45 (by decide +kernel) ?_
        refine G_iushr dr_cJ6_numberOfTrailingZeros_0f7a4_47 (G_nam fun z2157 hz2157 => ?_)
        have bz2157 : gB z2157 (-2147483648) 2147483647 := gB_any z2157
        refine G_istore_n (L' := [(0, .int z2157), (1, .int 9)]) dr_cJ6_numberOfTrailingZeros_0f7a4_48 (Nat.le_of_ble_eq_true rfl) rfl ?_
        refine G_iload_n 0 dr_cJ6_numberOfTrailingZeros_0f7a4_49 rfl ?_
        refine G_bipush 16 dr_cJ6_numberOfTrailingZeros_0f7a4_50 (by decide +kernel) ?_
        refine G_icmp_le 62 dr_cJ6_numberOfTrailingZeros_0f7a4_52 (by decide +kernel) (fun hc2158 => ?_) (fun hc2158 => ?_)
        · have r2159 : z2157.toInt ≤ 16 := gj_le hc2158 (show Int32.toInt 16 = 16 by decide)
          have bz2157' : gB z2157 (-2147483648) 16 := ⟨by omega, by omega⟩
          refine G_iload_n 0 dr_cJ6_numberOfTrailingZeros_0f7a4_62 rfl ?_
          refine G_iconst 4 dr_cJ6_numberOfTrailingZeros_0f7a4_63 (by decide +kernel) ?_
          refine G_icmp_le 74 dr_cJ6_numberOfTrailingZeros_0f7a4_64 (by decide +kernel) (fun hc2160 => ?_) (fun hc2160 => ?_)
          · have r2161 : z2157.toInt ≤ 4 := gj_le hc2160 (show Int32.toInt 4 = 4 by decide)
            have bz2157'' : gB z2157 (-2147483648) 4 := ⟨by omega, by omega⟩
            refine G_iload_n 1 dr_cJ6_numberOfTrailingZeros_0f7a4_74 rfl ?_
            refine G_iload_n 0 dr_cJ6_numberOfTrailingZeros_0f7a4_75 rfl ?_
            refine G_iconst 1 dr_cJ6_numberOfTrailingZeros_0f7a4_76 (by decide +kernel) ?_
            refine G_iushr dr_cJ6_numberOfTrailingZeros_0f7a4_77 (G_nam fun z2162 hz2162 => ?_)
            have bz2162 : gB z2162 (-2147483648) 2147483647 := gB_any z2162
            refine G_iadd dr_cJ6_numberOfTrailingZeros_0f7a4_78 (G_nam fun z2163 hz2163 => ?_)
            have bz2163 : gB z2163 (-2147483648) 2147483647 := gB_any z2163
            exact G_iretA dr_cJ6_numberOfTrailingZeros_0f7a4_79 rfl (Nat.le_of_ble_eq_true rfl) (Nat.le_of_ble_eq_true rfl) ⟨z2163, rfl, rfl, (Nat.le_of_ble_eq_true rfl), (Nat.le_of_ble_eq_true rfl), (fun R c1 c2 c3 c4 c5 c6 c7 c8 c9 c10 c11 c12 c13 c14 c15 c16 c17 => c5 z2127 z2128 z2129 z2157 z2162 z2163 hz2127 hz2128 hz2129 r2131 r2133 r2156 hz2157 r2159 r2161 hz2162 hz2163)⟩
          · have r2164 : 4 < z2157.toInt := gj_nle hc2160 (show Int32.toInt 4 = 4 by decide)
            have bz2157'' : gB z2157 5 16 := ⟨by omega, by omega⟩
            refine G_iinc (L' := [(1, .int 11), (0, .int z2157)]) (11) 1 dr_cJ6_numberOfTrailingZeros_0f7a4_67 rfl (by decide) (Nat.le_of_ble_eq_true rfl) rfl ?_
            refine G_iload_n 1 dr_cJ6_numberOfTrailingZeros_0f7a4_70 rfl ?_
            refine G_iconst 2 dr_cJ6_numberOfTrailingZeros_0f7a4_71 (by decide +kernel) ?_
            refine G_iushr dr_cJ6_numberOfTrailingZeros_0f7a4_72 (G_nam fun z2165 hz2165 => ?_)
            have bz2165 : gB z2165 (-2147483648) 2147483647 := gB_any z2165
            refine G_istore_n (L' := [(0, .int z2165), (1, .int 11)]) dr_cJ6_numberOfTrailingZeros_0f7a4_73 (Nat.le_of_ble_eq_true rfl) rfl ?_
            refine G_iload_n 1 dr_cJ6_numberOfTrailingZeros_0f7a4_74 rfl ?_
            refine G_iload_n 0 dr_cJ6_numberOfTrailingZeros_0f7a4_75 rfl ?_
            refine G_iconst 1 dr_cJ6_numberOfTrailingZeros_0f7a4_76 (by decide +kernel) ?_
            refine G_iushr dr_cJ6_numberOfTrailingZeros_0f7a4_77 (G_nam fun z2166 hz2166 => ?_)
            have bz2166 : gB z2166 (-2147483648) 2147483647 := gB_any z2166
            refine G_iadd dr_cJ6_numberOfTrailingZeros_0f7a4_78 (G_nam fun z2167 hz2167 => ?_)
            have bz2167 : gB z2167 (-2147483648) 2147483647 := gB_any z2167
            exact G_iretA dr_cJ6_numberOfTrailingZeros_0f7a4_79 rfl (Nat.le_of_ble_eq_true rfl) (Nat.le_of_ble_eq_true rfl) ⟨z2167, rfl, rfl, (Nat.le_of_ble_eq_true rfl), (Nat.le_of_ble_eq_true rfl), (fun R c1 c2 c3 c4 c5 c6 c7 c8 c9 c10 c11 c12 c13 c14 c15 c16 c17 => c6 z2127 z2128 z2129 z2157 z2165 z2166 z2167 hz2127 hz2128 hz2129 r2131 r2133 r2156 hz2157 r2159 r2164 hz2165 hz2166 hz2167)⟩
        · have r2168 : 16 < z2157.toInt := gj_nle hc2158 (show Int32.toInt 16 = 16 by decide)
          have bz2157' : gB z2157 17 2147483647 := ⟨by omega, by omega⟩
          refine G_iinc (L' := [(1, .int 13), (0, .int z2157)]) (13) 1 dr_cJ6_numberOfTrailingZeros_0f7a4_55 rfl (by decide) (Nat.le_of_ble_eq_true rfl) rfl ?_
          refine G_iload_n 1 dr_cJ6_numberOfTrailingZeros_0f7a4_58 rfl ?_
          refine G_iconst 4 dr_cJ6_numberOfTrailingZeros_0f7a4_59 (by decide +kernel) ?_
          refine G_iushr dr_cJ6_numberOfTrailingZeros_0f7a4_60 (G_nam fun z2169 hz2169 => ?_)
          have bz2169 : gB z2169 (-2147483648) 2147483647 := gB_any z2169
          refine G_istore_n (L' := [(0, .int z2169), (1, .int 13)]) dr_cJ6_numberOfTrailingZeros_0f7a4_61 (Nat.le_of_ble_eq_true rfl) rfl ?_
          refine G_iload_n 0 dr_cJ6_numberOfTrailingZeros_0f7a4_62 rfl ?_
          refine G_iconst 4 dr_cJ6_numberOfTrailingZeros_0f7a4_63 (by decide +kernel) ?_
          refine G_icmp_le 74 dr_cJ6_numberOfTrailingZeros_0f7a4_64 (by decide +kernel) (fun hc2170 => ?_) (fun hc2170 => ?_)
          · have r2171 : z2169.toInt ≤ 4 := gj_le hc2170 (show Int32.toInt 4 = 4 by decide)
            have bz2169' : gB z2169 (-2147483648) 4 := ⟨by omega, by omega⟩
            refine G_iload_n 1 dr_cJ6_numberOfTrailingZeros_0f7a4_74 rfl ?_
            refine G_iload_n 0 dr_cJ6_numberOfTrailingZeros_0f7a4_75 rfl ?_
            refine G_iconst 1 dr_cJ6_numberOfTrailingZeros_0f7a4_76 (by decide +kernel) ?_
            refine G_iushr dr_cJ6_numberOfTrailingZeros_0f7a4_77 (G_nam fun z2172 hz2172 => ?_)
            have bz2172 : gB z2172 (-2147483648) 2147483647 := gB_any z2172
            refine G_iadd dr_cJ6_numberOfTrailingZeros_0f7a4_78 (G_nam fun z2173 hz2173 => ?_)
            have bz2173 : gB z2173 (-2147483648) 2147483647 := gB_any z2173
            exact G_iretA dr_cJ6_numberOfTrailingZeros_0f7a4_79 rfl (Nat.le_of_ble_eq_true rfl) (Nat.le_of_ble_eq_true rfl) ⟨z2173, rfl, rfl, (Nat.le_of_ble_eq_true rfl), (Nat.le_of_ble_eq_true rfl), (fun R c1 c2 c3 c4 c5 c6 c7 c8 c9 c10 c11 c12 c13 c14 c15 c16 c17 => c7 z2127 z2128 z2129 z2157 z2169 z2172 z2173 hz2127 hz2128 hz2129 r2131 r2133 r2156 hz2157 r2168 hz2169 r2171 hz2172 hz2173)⟩
          · have r2174 : 4 < z2169.toInt := gj_nle hc2170 (show Int32.toInt 4 = 4 by decide)
            have bz2169' : gB z2169 5 2147483647 := ⟨by omega, by omega⟩
            refine G_iinc (L' := [(1, .int 15), (0, .int z2169)]) (15) 1 dr_cJ6_numberOfTrailingZeros_0f7a4_67 rfl (by decide) (Nat.le_of_ble_eq_true rfl) rfl ?_
            refine G_iload_n 1 dr_cJ6_numberOfTrailingZeros_0f7a4_70 rfl ?_
            refine G_iconst 2 dr_cJ6_numberOfTrailingZeros_0f7a4_71 (by decide +kernel) ?_
            refine G_iushr dr_cJ6_numberOfTrailingZeros_0f7a4_72 (G_nam fun z2175 hz2175 => ?_)
            have bz2175 : gB z2175 (-2147483648) 2147483647 := gB_any z2175
            refine G_istore_n (L' := [(0, .int z2175), (1, .int 15)]) dr_cJ6_numberOfTrailingZeros_0f7a4_73 (Nat.le_of_ble_eq_true rfl) rfl ?_
            refine G_iload_n 1 dr_cJ6_numberOfTrailingZeros_0f7a4_74 rfl ?_
            refine G_iload_n 0 dr_cJ6_numberOfTrailingZeros_0f7a4_75 rfl ?_
            refine G_iconst 1 dr_cJ6_numberOfTrailingZeros_0f7a4_76 (by decide +kernel) ?_
            refine G_iushr dr_cJ6_numberOfTrailingZeros_0f7a4_77 (G_nam fun z2176 hz2176 => ?_)
            have bz2176 : gB z2176 (-2147483648) 2147483647 := gB_any z2176
            refine G_iadd dr_cJ6_numberOfTrailingZeros_0f7a4_78 (G_nam fun z2177 hz2177 => ?_)
            have bz2177 : gB z2177 (-2147483648) 2147483647 := gB_any z2177
            exact G_iretA dr_cJ6_numberOfTrailingZeros_0f7a4_79 rfl (Nat.le_of_ble_eq_true rfl) (Nat.le_of_ble_eq_true rfl) ⟨z2177, rfl, rfl, (Nat.le_of_ble_eq_true rfl), (Nat.le_of_ble_eq_true rfl), (fun R c1 c2 c3 c4 c5 c6 c7 c8 c9 c10 c11 c12 c13 c14 c15 c16 c17 => c8 z2127 z2128 z2129 z2157 z2169 z2175 z2176 z2177 hz2127 hz2128 hz2129 r2131 r2133 r2156 hz2157 r2168 hz2169 r2174 hz2175 hz2176 hz2177)⟩
    · have r2178 : 65536 < z2129.toInt := gj_nle hc2132 (show Int32.toInt 65536 = 65536 by decide)
      have bz2129'' : gB z2129 65537 2147483647 := ⟨by omega, by omega⟩
      refine G_iinc (L' := [(1, .int 17), (0, .int z2129)]) (17) 0 dr_cJ6_numberOfTrailingZeros_0f7a4_26 rfl (by decide) (Nat.le_of_ble_eq_true rfl) rfl ?_
      refine G_iload_n 1 dr_cJ6_numberOfTrailingZeros_0f7a4_29 rfl ?_
      refine G_bipush 16 dr_cJ6_numberOfTrailingZeros_0f7a4_30 (by decide +kernel) ?_
      refine G_iushr dr_cJ6_numberOfTrailingZeros_0f7a4_32 (G_nam fun z2179 hz2179 => ?_)
      have bz2179 : gB z2179 (-2147483648) 2147483647 := gB_any z2179
      refine G_istore_n (L' := [(0, .int z2179), (1, .int 17)]) dr_cJ6_numberOfTrailingZeros_0f7a4_33 (Nat.le_of_ble_eq_true rfl) rfl ?_
      refine G_iload_n 0 dr_cJ6_numberOfTrailingZeros_0f7a4_34 rfl ?_
      refine G_sipush 256 dr_cJ6_numberOfTrailingZeros_0f7a4_35 (by decide +kernel) ?_
      refine G_icmp_le 49 dr_cJ6_numberOfTrailingZeros_0f7a4_38 (by decide +kernel) (fun hc2180 => ?_) (fun hc2180 => ?_)
      · have r2181 : z2179.toInt ≤ 256 := gj_le hc2180 (show Int32.toInt 256 = 256 by decide)
        have bz2179' : gB z2179 (-2147483648) 256 := ⟨by omega, by omega⟩
        refine G_iload_n 0 dr_cJ6_numberOfTrailingZeros_0f7a4_49 rfl ?_
        refine G_bipush 16 dr_cJ6_numberOfTrailingZeros_0f7a4_50 (by decide +kernel) ?_
        refine G_icmp_le 62 dr_cJ6_numberOfTrailingZeros_0f7a4_52 (by decide +kernel) (fun hc2182 => ?_) (fun hc2182 => ?_)
        · have r2183 : z2179.toInt ≤ 16 := gj_le hc2182 (show Int32.toInt 16 = 16 by decide)
          have bz2179'' : gB z2179 (-2147483648) 16 := ⟨by omega, by omega⟩
          refine G_iload_n 0 dr_cJ6_numberOfTrailingZeros_0f7a4_62 rfl ?_
          refine G_iconst 4 dr_cJ6_numberOfTrailingZeros_0f7a4_63 (by decide +kernel) ?_
          refine G_icmp_le 74 dr_cJ6_numberOfTrailingZeros_0f7a4_64 (by decide +kernel) (fun hc2184 => ?_) (fun hc2184 => ?_)
          · have r2185 : z2179.toInt ≤ 4 := gj_le hc2184 (show Int32.toInt 4 = 4 by decide)
            have bz2179''' : gB z2179 (-2147483648) 4 := ⟨by omega, by omega⟩
            refine G_iload_n 1 dr_cJ6_numberOfTrailingZeros_0f7a4_74 rfl ?_
            refine G_iload_n 0 dr_cJ6_numberOfTrailingZeros_0f7a4_75 rfl ?_
            refine G_iconst 1 dr_cJ6_numberOfTrailingZeros_0f7a4_76 (by decide +kernel) ?_
            refine G_iushr dr_cJ6_numberOfTrailingZeros_0f7a4_77 (G_nam fun z2186 hz2186 => ?_)
            have bz2186 : gB z2186 (-2147483648) 2147483647 := gB_any z2186
            refine G_iadd dr_cJ6_numberOfTrailingZeros_0f7a4_78 (G_nam fun z2187 hz2187 => ?_)
            have bz2187 : gB z2187 (-2147483648) 2147483647 := gB_any z2187
            exact G_iretA dr_cJ6_numberOfTrailingZeros_0f7a4_79 rfl (Nat.le_of_ble_eq_true rfl) (Nat.le_of_ble_eq_true rfl) ⟨z2187, rfl, rfl, (Nat.le_of_ble_eq_true rfl), (Nat.le_of_ble_eq_true rfl), (fun R c1 c2 c3 c4 c5 c6 c7 c8 c9 c10 c11 c12 c13 c14 c15 c16 c17 => c9 z2127 z2128 z2129 z2179 z2186 z2187 hz2127 hz2128 hz2129 r2131 r2178 hz2179 r2181 r2183 r2185 hz2186 hz2187)⟩
          · have r2188 : 4 < z2179.toInt := gj_nle hc2184 (show Int32.toInt 4 = 4 by decide)
            have bz2179''' : gB z2179 5 16 := ⟨by omega, by omega⟩
            refine G_iinc (L' := [(1, .int 19), (0, .int z2179)]) (19) 1 dr_cJ6_numberOfTrailingZeros_0f7a4_67 rfl (by decide) (Nat.le_of_ble_eq_true rfl) rfl ?_
            refine G_iload_n 1 dr_cJ6_numberOfTrailingZeros_0f7a4_70 rfl ?_
            refine G_iconst 2 dr_cJ6_numberOfTrailingZeros_0f7a4_71 (by decide +kernel) ?_
            refine G_iushr dr_cJ6_numberOfTrailingZeros_0f7a4_72 (G_nam fun z2189 hz2189 => ?_)
            have bz2189 : gB z2189 (-2147483648) 2147483647 := gB_any z2189
            refine G_istore_n (L' := [(0, .int z2189), (1, .int 19)]) dr_cJ6_numberOfTrailingZeros_0f7a4_73 (Nat.le_of_ble_eq_true rfl) rfl ?_
            refine G_iload_n 1 dr_cJ6_numberOfTrailingZeros_0f7a4_74 rfl ?_
            refine G_iload_n 0 dr_cJ6_numberOfTrailingZeros_0f7a4_75 rfl ?_
            refine G_iconst 1 dr_cJ6_numberOfTrailingZeros_0f7a4_76 (by decide +kernel) ?_
            refine G_iushr dr_cJ6_numberOfTrailingZeros_0f7a4_77 (G_nam fun z2190 hz2190 => ?_)
            have bz2190 : gB z2190 (-2147483648) 2147483647 := gB_any z2190
            refine G_iadd dr_cJ6_numberOfTrailingZeros_0f7a4_78 (G_nam fun z2191 hz2191 => ?_)
            have bz2191 : gB z2191 (-2147483648) 2147483647 := gB_any z2191
            exact G_iretA dr_cJ6_numberOfTrailingZeros_0f7a4_79 rfl (Nat.le_of_ble_eq_true rfl) (Nat.le_of_ble_eq_true rfl) ⟨z2191, rfl, rfl, (Nat.le_of_ble_eq_true rfl), (Nat.le_of_ble_eq_true rfl), (fun R c1 c2 c3 c4 c5 c6 c7 c8 c9 c10 c11 c12 c13 c14 c15 c16 c17 => c10 z2127 z2128 z2129 z2179 z2189 z2190 z2191 hz2127 hz2128 hz2129 r2131 r2178 hz2179 r2181 r2183 r2188 hz2189 hz2190 hz2191)⟩
        · have r2192 : 16 < z2179.toInt := gj_nle hc2182 (show Int32.toInt 16 = 16 by decide)
          have bz2179'' : gB z2179 17 256 := ⟨by omega, by omega⟩
          refine G_iinc (L' := [(1, .int 21), (0, .int z2179)]) (21) 1 dr_cJ6_numberOfTrailingZeros_0f7a4_55 rfl (by decide) (Nat.le_of_ble_eq_true rfl) rfl ?_
          refine G_iload_n 1 dr_cJ6_numberOfTrailingZeros_0f7a4_58 rfl ?_
          refine G_iconst 4 dr_cJ6_numberOfTrailingZeros_0f7a4_59 (by decide +kernel) ?_
          refine G_iushr dr_cJ6_numberOfTrailingZeros_0f7a4_60 (G_nam fun z2193 hz2193 => ?_)
          have bz2193 : gB z2193 (-2147483648) 2147483647 := gB_any z2193
          refine G_istore_n (L' := [(0, .int z2193), (1, .int 21)]) dr_cJ6_numberOfTrailingZeros_0f7a4_61 (Nat.le_of_ble_eq_true rfl) rfl ?_
          refine G_iload_n 0 dr_cJ6_numberOfTrailingZeros_0f7a4_62 rfl ?_
          refine G_iconst 4 dr_cJ6_numberOfTrailingZeros_0f7a4_63 (by decide +kernel) ?_
          refine G_icmp_le 74 dr_cJ6_numberOfTrailingZeros_0f7a4_64 (by decide +kernel) (fun hc2194 => ?_) (fun hc2194 => ?_)
          · have r2195 : z2193.toInt ≤ 4 := gj_le hc2194 (show Int32.toInt 4 = 4 by decide)
            have bz2193' : gB z2193 (-2147483648) 4 := ⟨by omega, by omega⟩
            refine G_iload_n 1 dr_cJ6_numberOfTrailingZeros_0f7a4_74 rfl ?_
            refine G_iload_n 0 dr_cJ6_numberOfTrailingZeros_0f7a4_75 rfl ?_
            refine G_iconst 1 dr_cJ6_numberOfTrailingZeros_0f7a4_76 (by decide +kernel) ?_
            refine G_iushr dr_cJ6_numberOfTrailingZeros_0f7a4_77 (G_nam fun z2196 hz2196 => ?_)
            have bz2196 : gB z2196 (-2147483648) 2147483647 := gB_any z2196
            refine G_iadd dr_cJ6_numberOfTrailingZeros_0f7a4_78 (G_nam fun z2197 hz2197 => ?_)
            have bz2197 : gB z2197 (-2147483648) 2147483647 := gB_any z2197
            exact G_iretA dr_cJ6_numberOfTrailingZeros_0f7a4_79 rfl (Nat.le_of_ble_eq_true rfl) (Nat.le_of_ble_eq_true rfl) ⟨z2197, rfl, rfl, (Nat.le_of_ble_eq_true rfl), (Nat.le_of_ble_eq_true rfl), (fun R c1 c2 c3 c4 c5 c6 c7 c8 c9 c10 c11 c12 c13 c14 c15 c16 c17 => c11 z2127 z2128 z2129 z2179 z2193 z2196 z2197 hz2127 hz2128 hz2129 r2131 r2178 hz2179 r2181 r2192 hz2193 r2195 hz2196 hz2197)⟩
          · have r2198 : 4 < z2193.toInt := gj_nle hc2194 (show Int32.toInt 4 = 4 by decide)
            have bz2193' : gB z2193 5 2147483647 := ⟨by omega, by omega⟩
            refine G_iinc (L' := [(1, .int 23), (0, .int z2193)]) (23) 1 dr_cJ6_numberOfTrailingZeros_0f7a4_67 rfl (by decide) (Nat.le_of_ble_eq_true rfl) rfl ?_
            refine G_iload_n 1 dr_cJ6_numberOfTrailingZeros_0f7a4_70 rfl ?_
            refine G_iconst 2 dr_cJ6_numberOfTrailingZeros_0f7a4_71 (by decide +kernel) ?_
            refine G_iushr dr_cJ6_numberOfTrailingZeros_0f7a4_72 (G_nam fun z2199 hz2199 => ?_)
            have bz2199 : gB z2199 (-2147483648) 2147483647 := gB_any z2199
            refine G_istore_n (L' := [(0, .int z2199), (1, .int 23)]) dr_cJ6_numberOfTrailingZeros_0f7a4_73 (Nat.le_of_ble_eq_true rfl) rfl ?_
            refine G_iload_n 1 dr_cJ6_numberOfTrailingZeros_0f7a4_74 rfl ?_
            refine G_iload_n 0 dr_cJ6_numberOfTrailingZeros_0f7a4_75 rfl ?_
            refine G_iconst 1 dr_cJ6_numberOfTrailingZeros_0f7a4_76 (by decide +kernel) ?_
            refine G_iushr dr_cJ6_numberOfTrailingZeros_0f7a4_77 (G_nam fun z2200 hz2200 => ?_)
            have bz2200 : gB z2200 (-2147483648) 2147483647 := gB_any z2200
            refine G_iadd dr_cJ6_numberOfTrailingZeros_0f7a4_78 (G_nam fun z2201 hz2201 => ?_)
            have bz2201 : gB z2201 (-2147483648) 2147483647 := gB_any z2201
            exact G_iretA dr_cJ6_numberOfTrailingZeros_0f7a4_79 rfl (Nat.le_of_ble_eq_true rfl) (Nat.le_of_ble_eq_true rfl) ⟨z2201, rfl, rfl, (Nat.le_of_ble_eq_true rfl), (Nat.le_of_ble_eq_true rfl), (fun R c1 c2 c3 c4 c5 c6 c7 c8 c9 c10 c11 c12 c13 c14 c15 c16 c17 => c12 z2127 z2128 z2129 z2179 z2193 z2199 z2200 z2201 hz2127 hz2128 hz2129 r2131 r2178 hz2179 r2181 r2192 hz2193 r2198 hz2199 hz2200 hz2201)⟩
      · have r2202 : 256 < z2179.toInt := gj_nle hc2180 (show Int32.toInt 256 = 256 by decide)
        have bz2179' : gB z2179 257 2147483647 := ⟨by omega, by omega⟩
        refine G_iinc (L' := [(1, .int 25), (0, .int z2179)]) (25) 1 dr_cJ6_numberOfTrailingZeros_0f7a4_41 rfl (by decide) (Nat.le_of_ble_eq_true rfl) rfl ?_
        refine G_iload_n 1 dr_cJ6_numberOfTrailingZeros_0f7a4_44 rfl ?_
        refine G_bipush 8 dr_cJ6_numberOfTrailingZeros_0f7a4_45 (by decide +kernel) ?_
        refine G_iushr dr_cJ6_numberOfTrailingZeros_0f7a4_47 (G_nam fun z2203 hz2203 => ?_)
        have bz2203 : gB z2203 (-2147483648) 2147483647 := gB_any z2203
        refine G_istore_n (L' := [(0, .int z2203), (1, .int 25)]) dr_cJ6_numberOfTrailingZeros_0f7a4_48 (Nat.le_of_ble_eq_true rfl) rfl ?_
        refine G_iload_n 0 dr_cJ6_numberOfTrailingZeros_0f7a4_49 rfl ?_
        refine G_bipush 16 dr_cJ6_numberOfTrailingZeros_0f7a4_50 (by decide +kernel) ?_
        refine G_icmp_le 62 dr_cJ6_numberOfTrailingZeros_0f7a4_52 (by decide +kernel) (fun hc2204 => ?_) (fun hc2204 => ?_)
        · have r2205 : z2203.toInt ≤ 16 := gj_le hc2204 (show Int32.toInt 16 = 16 by decide)
          have bz2203' : gB z2203 (-2147483648) 16 := ⟨by omega, by omega⟩
          refine G_iload_n 0 dr_cJ6_numberOfTrailingZeros_0f7a4_62 rfl ?_
          refine G_iconst 4 dr_cJ6_numberOfTrailingZeros_0f7a4_63 (by decide +kernel) ?_
          refine G_icmp_le 74 dr_cJ6_numberOfTrailingZeros_0f7a4_64 (by decide +kernel) (fun hc2206 => ?_) (fun hc2206 => ?_)
          · have r2207 : z2203.toInt ≤ 4 := gj_le hc2206 (show Int32.toInt 4 = 4 by decide)
            have bz2203'' : gB z2203 (-2147483648) 4 := ⟨by omega, by omega⟩
            refine G_iload_n 1 dr_cJ6_numberOfTrailingZeros_0f7a4_74 rfl ?_
            refine G_iload_n 0 dr_cJ6_numberOfTrailingZeros_0f7a4_75 rfl ?_
            refine G_iconst 1 dr_cJ6_numberOfTrailingZeros_0f7a4_76 (by decide +kernel) ?_
            refine G_iushr dr_cJ6_numberOfTrailingZeros_0f7a4_77 (G_nam fun z2208 hz2208 => ?_)
            have bz2208 : gB z2208 (-2147483648) 2147483647 := gB_any z2208
            refine G_iadd dr_cJ6_numberOfTrailingZeros_0f7a4_78 (G_nam fun z2209 hz2209 => ?_)
            have bz2209 : gB z2209 (-2147483648) 2147483647 := gB_any z2209
            exact G_iretA dr_cJ6_numberOfTrailingZeros_0f7a4_79 rfl (Nat.le_of_ble_eq_true rfl) (Nat.le_of_ble_eq_true rfl) ⟨z2209, rfl, rfl, (Nat.le_of_ble_eq_true rfl), (Nat.le_of_ble_eq_true rfl), (fun R c1 c2 c3 c4 c5 c6 c7 c8 c9 c10 c11 c12 c13 c14 c15 c16 c17 => c13 z2127 z2128 z2129 z2179 z2203 z2208 z2209 hz2127 hz2128 hz2129 r2131 r2178 hz2179 r2202 hz2203 r2205 r2207 hz2208 hz2209)⟩
          · have r2210 : 4 < z2203.toInt := gj_nle hc2206 (show Int32.toInt 4 = 4 by decide)
            have bz2203'' : gB z2203 5 16 := ⟨by omega, by omega⟩
            refine G_iinc (L' := [(1, .int 27), (0, .int z2203)]) (27) 1 dr_cJ6_numberOfTrailingZeros_0f7a4_67 rfl (by decide) (Nat.le_of_ble_eq_true rfl) rfl ?_
            refine G_iload_n 1 dr_cJ6_numberOfTrailingZeros_0f7a4_70 rfl ?_
            refine G_iconst 2 dr_cJ6_numberOfTrailingZeros_0f7a4_71 (by decide +kernel) ?_
            refine G_iushr dr_cJ6_numberOfTrailingZeros_0f7a4_72 (G_nam fun z2211 hz2211 => ?_)
            have bz2211 : gB z2211 (-2147483648) 2147483647 := gB_any z2211
            refine G_istore_n (L' := [(0, .int z2211), (1, .int 27)]) dr_cJ6_numberOfTrailingZeros_0f7a4_73 (Nat.le_of_ble_eq_true rfl) rfl ?_
            refine G_iload_n 1 dr_cJ6_numberOfTrailingZeros_0f7a4_74 rfl ?_
            refine G_iload_n 0 dr_cJ6_numberOfTrailingZeros_0f7a4_75 rfl ?_
            refine G_iconst 1 dr_cJ6_numberOfTrailingZeros_0f7a4_76 (by decide +kernel) ?_
            refine G_iushr dr_cJ6_numberOfTrailingZeros_0f7a4_77 (G_nam fun z2212 hz2212 => ?_)
            have bz2212 : gB z2212 (-2147483648) 2147483647 := gB_any z2212
            refine G_iadd dr_cJ6_numberOfTrailingZeros_0f7a4_78 (G_nam fun z2213 hz2213 => ?_)
            have bz2213 : gB z2213 (-2147483648) 2147483647 := gB_any z2213
            exact G_iretA dr_cJ6_numberOfTrailingZeros_0f7a4_79 rfl (Nat.le_of_ble_eq_true rfl) (Nat.le_of_ble_eq_true rfl) ⟨z2213, rfl, rfl, (Nat.le_of_ble_eq_true rfl), (Nat.le_of_ble_eq_true rfl), (fun R c1 c2 c3 c4 c5 c6 c7 c8 c9 c10 c11 c12 c13 c14 c15 c16 c17 => c14 z2127 z2128 z2129 z2179 z2203 z2211 z2212 z2213 hz2127 hz2128 hz2129 r2131 r2178 hz2179 r2202 hz2203 r2205 r2210 hz2211 hz2212 hz2213)⟩
        · have r2214 : 16 < z2203.toInt := gj_nle hc2204 (show Int32.toInt 16 = 16 by decide)
          have bz2203' : gB z2203 17 2147483647 := ⟨by omega, by omega⟩
          refine G_iinc (L' := [(1, .int 29), (0, .int z2203)]) (29) 1 dr_cJ6_numberOfTrailingZeros_0f7a4_55 rfl (by decide) (Nat.le_of_ble_eq_true rfl) rfl ?_
          refine G_iload_n 1 dr_cJ6_numberOfTrailingZeros_0f7a4_58 rfl ?_
          refine G_iconst 4 dr_cJ6_numberOfTrailingZeros_0f7a4_59 (by decide +kernel) ?_
          refine G_iushr dr_cJ6_numberOfTrailingZeros_0f7a4_60 (G_nam fun z2215 hz2215 => ?_)
          have bz2215 : gB z2215 (-2147483648) 2147483647 := gB_any z2215
          refine G_istore_n (L' := [(0, .int z2215), (1, .int 29)]) dr_cJ6_numberOfTrailingZeros_0f7a4_61 (Nat.le_of_ble_eq_true rfl) rfl ?_
          refine G_iload_n 0 dr_cJ6_numberOfTrailingZeros_0f7a4_62 rfl ?_
          refine G_iconst 4 dr_cJ6_numberOfTrailingZeros_0f7a4_63 (by decide +kernel) ?_
          refine G_icmp_le 74 dr_cJ6_numberOfTrailingZeros_0f7a4_64 (by decide +kernel) (fun hc2216 => ?_) (fun hc2216 => ?_)
          · have r2217 : z2215.toInt ≤ 4 := gj_le hc2216 (show Int32.toInt 4 = 4 by decide)
            have bz2215' : gB z2215 (-2147483648) 4 := ⟨by omega, by omega⟩
            refine G_iload_n 1 dr_cJ6_numberOfTrailingZeros_0f7a4_74 rfl ?_
            refine G_iload_n 0 dr_cJ6_numberOfTrailingZeros_0f7a4_75 rfl ?_
            refine G_iconst 1 dr_cJ6_numberOfTrailingZeros_0f7a4_76 (by decide +kernel) ?_
            refine G_iushr dr_cJ6_numberOfTrailingZeros_0f7a4_77 (G_nam fun z2218 hz2218 => ?_)
            have bz2218 : gB z2218 (-2147483648) 2147483647 := gB_any z2218
            refine G_iadd dr_cJ6_numberOfTrailingZeros_0f7a4_78 (G_nam fun z2219 hz2219 => ?_)
            have bz2219 : gB z2219 (-2147483648) 2147483647 := gB_any z2219
            exact G_iretA dr_cJ6_numberOfTrailingZeros_0f7a4_79 rfl (Nat.le_of_ble_eq_true rfl) (Nat.le_of_ble_eq_true rfl) ⟨z2219, rfl, rfl, (Nat.le_of_ble_eq_true rfl), (Nat.le_of_ble_eq_true rfl), (fun R c1 c2 c3 c4 c5 c6 c7 c8 c9 c10 c11 c12 c13 c14 c15 c16 c17 => c15 z2127 z2128 z2129 z2179 z2203 z2215 z2218 z2219 hz2127 hz2128 hz2129 r2131 r2178 hz2179 r2202 hz2203 r2214 hz2215 r2217 hz2218 hz2219)⟩
          · have r2220 : 4 < z2215.toInt := gj_nle hc2216 (show Int32.toInt 4 = 4 by decide)
            have bz2215' : gB z2215 5 2147483647 := ⟨by omega, by omega⟩
            refine G_iinc (L' := [(1, .int 31), (0, .int z2215)]) (31) 1 dr_cJ6_numberOfTrailingZeros_0f7a4_67 rfl (by decide) (Nat.le_of_ble_eq_true rfl) rfl ?_
            refine G_iload_n 1 dr_cJ6_numberOfTrailingZeros_0f7a4_70 rfl ?_
            refine G_iconst 2 dr_cJ6_numberOfTrailingZeros_0f7a4_71 (by decide +kernel) ?_
            refine G_iushr dr_cJ6_numberOfTrailingZeros_0f7a4_72 (G_nam fun z2221 hz2221 => ?_)
            have bz2221 : gB z2221 (-2147483648) 2147483647 := gB_any z2221
            refine G_istore_n (L' := [(0, .int z2221), (1, .int 31)]) dr_cJ6_numberOfTrailingZeros_0f7a4_73 (Nat.le_of_ble_eq_true rfl) rfl ?_
            refine G_iload_n 1 dr_cJ6_numberOfTrailingZeros_0f7a4_74 rfl ?_
            refine G_iload_n 0 dr_cJ6_numberOfTrailingZeros_0f7a4_75 rfl ?_
            refine G_iconst 1 dr_cJ6_numberOfTrailingZeros_0f7a4_76 (by decide +kernel) ?_
            refine G_iushr dr_cJ6_numberOfTrailingZeros_0f7a4_77 (G_nam fun z2222 hz2222 => ?_)
            have bz2222 : gB z2222 (-2147483648) 2147483647 := gB_any z2222
            refine G_iadd dr_cJ6_numberOfTrailingZeros_0f7a4_78 (G_nam fun z2223 hz2223 => ?_)
            have bz2223 : gB z2223 (-2147483648) 2147483647 := gB_any z2223
            exact G_iretA dr_cJ6_numberOfTrailingZeros_0f7a4_79 rfl (Nat.le_of_ble_eq_true rfl) (Nat.le_of_ble_eq_true rfl) ⟨z2223, rfl, rfl, (Nat.le_of_ble_eq_true rfl), (Nat.le_of_ble_eq_true rfl), (fun R c1 c2 c3 c4 c5 c6 c7 c8 c9 c10 c11 c12 c13 c14 c15 c16 c17 => c16 z2127 z2128 z2129 z2179 z2203 z2215 z2221 z2222 z2223 hz2127 hz2128 hz2129 r2131 r2178 hz2179 r2202 hz2203 r2214 hz2215 r2220 hz2221 hz2222 hz2223)⟩
  · have r2224 : z2129.toInt ≤ 0 := gj_nltL hc2130 (show Int32.toInt 0 = 0 by decide)
    have bz2129' : gB z2129 (-2147483648) 0 := ⟨by omega, by omega⟩
    refine G_iload_n 0 dr_cJ6_numberOfTrailingZeros_0f7a4_12 rfl ?_
    refine G_bipush 32 dr_cJ6_numberOfTrailingZeros_0f7a4_13 (by decide +kernel) ?_
    refine G_iand dr_cJ6_numberOfTrailingZeros_0f7a4_15 (G_nam fun z2225 hz2225 => ?_)
    have bz2225 : gB z2225 0 32 := gB_and hz2225 (gBl (show Int32.toInt 32 = 32 by decide)) (by decide)
    exact G_iretA dr_cJ6_numberOfTrailingZeros_0f7a4_16 rfl (Nat.le_of_ble_eq_true rfl) (Nat.le_of_ble_eq_true rfl) ⟨z2225, rfl, rfl, (Nat.le_of_ble_eq_true rfl), (Nat.le_of_ble_eq_true rfl), (fun R c1 c2 c3 c4 c5 c6 c7 c8 c9 c10 c11 c12 c13 c14 c15 c16 c17 => c17 z2127 z2128 z2129 z2225 hz2127 hz2128 hz2129 r2224 hz2225)⟩
/- tr_RLong_numberOfTrailingZeros: result -/
def tr_RLong_numberOfTrailingZeros (a0 : Int64) (o1 : Int32) : Prop := ∀ R : (Int32) → Prop,
  (∀ (x1 : Int32) (x2 : Int32), x1 = a0.toInt32 → x1.toInt ≠ 0 → tr_RInteger_numberOfTrailingZeros x1 x2 → R x2) →
  (∀ (x1 : Int32) (x2 : Int64) (x3 : Int32) (x4 : Int32) (x5 : Int32), x1 = a0.toInt32 → x1.toInt = 0 → x2 = (a0.toUInt64 >>> ((32 : Int32).toInt64.toUInt64 &&& Int64.toUInt64 63)).toInt64 → x3 = x2.toInt32 → tr_RInteger_numberOfTrailingZeros x3 x4 → x5 = (32 : Int32) + x4 → R x5) →
  R o1
end
section
theorem dr_cJ13_numberOfTrailingZeros_95d88_0 : decode cJ13_numberOfTrailingZeros_95d88 0 = .ok (.lload_n 0, 1) := by decide +kernel
theorem dr_cJ13_numberOfTrailingZeros_95d88_1 : decode cJ13_numberOfTrailingZeros_95d88 1 = .ok (.l2i, 1) := by decide +kernel
theorem dr_cJ13_numberOfTrailingZeros_95d88_2 : decode cJ13_numberOfTrailingZeros_95d88 2 = .ok (.istore_n 2, 1) := by decide +kernel
theorem dr_cJ13_numberOfTrailingZeros_95d88_3 : decode cJ13_numberOfTrailingZeros_95d88 3 = .ok (.iload_n 2, 1) := by decide +kernel
theorem dr_cJ13_numberOfTrailingZeros_95d88_4 : decode cJ13_numberOfTrailingZeros_95d88 4 = .ok (.ifCond .ne 17, 3) := by decide +kernel
theorem dr_cJ13_numberOfTrailingZeros_95d88_21 : decode cJ13_numberOfTrailingZeros_95d88 21 = .ok (.iload_n 2, 1) := by decide +kernel
theorem dr_cJ13_numberOfTrailingZeros_95d88_22 : decode cJ13_numberOfTrailingZeros_95d88 22 = .ok (.invokestatic 311, 3) := by decide +kernel
theorem wr_11_4 : (Jvm.Cond.methodLink "java/lang/Long" (311 : Nat) ({ cls := "java/lang/Integer", name := "numberOfTrailingZeros", desc := "(I)I" } : Jvm.MethodName)) ∈ gw := gw_11 4 rfl rfl
theorem wr_1_35 : (Jvm.Cond.initialized "java/lang/Integer") ∈ gw := gw_1 35 rfl rfl
theorem wr_11_6 : (Jvm.Cond.code ({ cls := "java/lang/Integer", name := "numberOfTrailingZeros", desc := "(I)I" } : Jvm.MethodName) prog_29_method_48_code (2 : Nat) (Option.some Jvm.ClassFile.FieldType.int)) ∈ gw := gw_11 6 rfl rfl
theorem wr_11_5 : (Jvm.Cond.static ({ cls := "java/lang/Integer", name := "numberOfTrailingZeros", desc := "(I)I" } : Jvm.MethodName)) ∈ gw := gw_11 5 rfl rfl
theorem dr_cJ13_numberOfTrailingZeros_95d88_25 : decode cJ13_numberOfTrailingZeros_95d88 25 = .ok (.ireturn, 1) := by decide +kernel
theorem dr_cJ13_numberOfTrailingZeros_95d88_7 : decode cJ13_numberOfTrailingZeros_95d88 7 = .ok (.bipush 32, 2) := by decide +kernel
theorem dr_cJ13_numberOfTrailingZeros_95d88_9 : decode cJ13_numberOfTrailingZeros_95d88 9 = .ok (.lload_n 0, 1) := by decide +kernel
theorem dr_cJ13_numberOfTrailingZeros_95d88_10 : decode cJ13_numberOfTrailingZeros_95d88 10 = .ok (.bipush 32, 2) := by decide +kernel
theorem dr_cJ13_numberOfTrailingZeros_95d88_12 : decode cJ13_numberOfTrailingZeros_95d88 12 = .ok (.lushr, 1) := by decide +kernel
theorem dr_cJ13_numberOfTrailingZeros_95d88_13 : decode cJ13_numberOfTrailingZeros_95d88 13 = .ok (.l2i, 1) := by decide +kernel
theorem dr_cJ13_numberOfTrailingZeros_95d88_14 : decode cJ13_numberOfTrailingZeros_95d88 14 = .ok (.invokestatic 311, 3) := by decide +kernel
theorem dr_cJ13_numberOfTrailingZeros_95d88_17 : decode cJ13_numberOfTrailingZeros_95d88 17 = .ok (.iadd, 1) := by decide +kernel
theorem dr_cJ13_numberOfTrailingZeros_95d88_18 : decode cJ13_numberOfTrailingZeros_95d88 18 = .ok (.goto 7, 3) := by decide +kernel
theorem dr_cX14_isDigit_0 : decode cX14_isDigit 0 = .ok (.iload_n 0, 1) := by decide +kernel
theorem dr_cX14_isDigit_1 : decode cX14_isDigit 1 = .ok (.bipush 48, 2) := by decide +kernel
theorem dr_cX14_isDigit_3 : decode cX14_isDigit 3 = .ok (.if_icmp .lt 13, 3) := by decide +kernel
theorem dr_cX14_isDigit_16 : decode cX14_isDigit 16 = .ok (.iconst 0, 1) := by decide +kernel
theorem dr_cX14_isDigit_17 : decode cX14_isDigit 17 = .ok (.ireturn, 1) := by decide +kernel
theorem dr_cX14_isDigit_6 : decode cX14_isDigit 6 = .ok (.iload_n 0, 1) := by decide +kernel
theorem dr_cX14_isDigit_7 : decode cX14_isDigit 7 = .ok (.bipush 57, 2) := by decide +kernel
theorem dr_cX14_isDigit_9 : decode cX14_isDigit 9 = .ok (.if_icmp .gt 7, 3) := by decide +kernel
theorem dr_cX14_isDigit_12 : decode cX14_isDigit 12 = .ok (.iconst 1, 1) := by decide +kernel
theorem dr_cX14_isDigit_13 : decode cX14_isDigit 13 = .ok (.goto 4, 3) := by decide +kernel
theorem dr_cX14_isLetter_0 : decode cX14_isLetter 0 = .ok (.iload_n 0, 1) := by decide +kernel
theorem dr_cX14_isLetter_1 : decode cX14_isLetter 1 = .ok (.bipush 97, 2) := by decide +kernel
theorem dr_cX14_isLetter_3 : decode cX14_isLetter 3 = .ok (.if_icmp .lt 13, 3) := by decide +kernel
theorem dr_cX14_isLetter_16 : decode cX14_isLetter 16 = .ok (.iconst 0, 1) := by decide +kernel
theorem dr_cX14_isLetter_17 : decode cX14_isLetter 17 = .ok (.ireturn, 1) := by decide +kernel
theorem dr_cX14_isLetter_6 : decode cX14_isLetter 6 = .ok (.iload_n 0, 1) := by decide +kernel
theorem dr_cX14_isLetter_7 : decode cX14_isLetter 7 = .ok (.bipush 122, 2) := by decide +kernel
theorem dr_cX14_isLetter_9 : decode cX14_isLetter 9 = .ok (.if_icmp .gt 7, 3) := by decide +kernel
theorem dr_cX14_isLetter_12 : decode cX14_isLetter 12 = .ok (.iconst 1, 1) := by decide +kernel
theorem dr_cX14_isLetter_13 : decode cX14_isLetter 13 = .ok (.goto 4, 3) := by decide +kernel
theorem dr_cX13_row_0 : decode cX13_row 0 = .ok (.aload_n 0, 1) := by decide +kernel
theorem dr_cX13_row_1 : decode cX13_row 1 = .ok (.getfield 19, 3) := by decide +kernel
theorem wr_7_32 : (Jvm.Cond.fieldLink "SpillForgeModel$Code" (19 : Nat) "SpillForgeModel$Code" "rowN" "I") ∈ gw := gw_7 32 rfl rfl
theorem dr_cX13_row_4 : decode cX13_row 4 = .ok (.aload_n 0, 1) := by decide +kernel
theorem dr_cX13_row_5 : decode cX13_row 5 = .ok (.getfield 16, 3) := by decide +kernel
theorem wr_7_31 : (Jvm.Cond.fieldLink "SpillForgeModel$Code" (16 : Nat) "SpillForgeModel$Code" "rows" "Ljava/util/ArrayList;") ∈ gw := gw_7 31 rfl rfl
theorem dr_cX13_row_8 : decode cX13_row 8 = .ok (.invokevirtual 26, 3) := by decide +kernel
theorem wr_9_157 : (Jvm.Cond.methodLink "SpillForgeModel$Code" (26 : Nat) ({ cls := "java/util/ArrayList", name := "size", desc := "()I" } : Jvm.MethodName)) ∈ gw := gw_9 157 rfl rfl
theorem wr_9_160 : (Jvm.Cond.code ({ cls := "java/util/ArrayList", name := "size", desc := "()I" } : Jvm.MethodName) prog_43_method_8_code (1 : Nat) (Option.some Jvm.ClassFile.FieldType.int)) ∈ gw := gw_9 160 rfl rfl
theorem wr_9_158 : (Jvm.Cond.instanceMethod ({ cls := "java/util/ArrayList", name := "size", desc := "()I" } : Jvm.MethodName)) ∈ gw := gw_9 158 rfl rfl
theorem wr_9_159 : (Jvm.Cond.selects "java/util/ArrayList" ({ cls := "java/util/ArrayList", name := "size", desc := "()I" } : Jvm.MethodName) ({ cls := "java/util/ArrayList", name := "size", desc := "()I" } : Jvm.MethodName)) ∈ gw := gw_9 159 rfl rfl
theorem dr_cX13_row_11 : decode cX13_row 11 = .ok (.if_icmp .ne 18, 3) := by decide +kernel
theorem dr_cX13_row_29 : decode cX13_row 29 = .ok (.aload_n 0, 1) := by decide +kernel
theorem dr_cX13_row_30 : decode cX13_row 30 = .ok (.getfield 16, 3) := by decide +kernel
theorem dr_cX13_row_33 : decode cX13_row 33 = .ok (.aload_n 0, 1) := by decide +kernel
theorem dr_cX13_row_34 : decode cX13_row 34 = .ok (.getfield 19, 3) := by decide +kernel
theorem dr_cX13_row_37 : decode cX13_row 37 = .ok (.invokevirtual 37, 3) := by decide +kernel
theorem wr_10_62 : (Jvm.Cond.methodLink "SpillForgeModel$Code" (37 : Nat) ({ cls := "java/util/ArrayList", name := "get", desc := "(I)Ljava/lang/Object;" } : Jvm.MethodName)) ∈ gw := gw_10 62 rfl rfl
theorem wr_10_65 : (Jvm.Cond.code ({ cls := "java/util/ArrayList", name := "get", desc := "(I)Ljava/lang/Object;" } : Jvm.MethodName) prog_43_method_20_code (2 : Nat) (Option.some (Jvm.ClassFile.FieldType.object "java/lang/Object"))) ∈ gw := gw_10 65 rfl rfl
theorem wr_10_63 : (Jvm.Cond.instanceMethod ({ cls := "java/util/ArrayList", name := "get", desc := "(I)Ljava/lang/Object;" } : Jvm.MethodName)) ∈ gw := gw_10 63 rfl rfl
theorem wr_10_64 : (Jvm.Cond.selects "java/util/ArrayList" ({ cls := "java/util/ArrayList", name := "get", desc := "(I)Ljava/lang/Object;" } : Jvm.MethodName) ({ cls := "java/util/ArrayList", name := "get", desc := "(I)Ljava/lang/Object;" } : Jvm.MethodName)) ∈ gw := gw_10 64 rfl rfl
theorem dr_cX13_row_40 : decode cX13_row 40 = .ok (.checkcast 45, 3) := by decide +kernel
theorem wr_10_83 : (Jvm.Cond.classLink "SpillForgeModel$Code" (45 : Nat) "SpillForgeModel$Row") ∈ gw := gw_10 83 rfl rfl
theorem dr_cX13_row_43 : decode cX13_row 43 = .ok (.astore_n 1, 1) := by decide +kernel
theorem dr_cX13_row_44 : decode cX13_row 44 = .ok (.aload_n 0, 1) := by decide +kernel
theorem dr_cX13_row_45 : decode cX13_row 45 = .ok (.dup, 1) := by decide +kernel
theorem dr_cX13_row_46 : decode cX13_row 46 = .ok (.getfield 19, 3) := by decide +kernel
theorem dr_cX13_row_49 : decode cX13_row 49 = .ok (.iconst 1, 1) := by decide +kernel
theorem dr_cX13_row_50 : decode cX13_row 50 = .ok (.iadd, 1) := by decide +kernel
theorem dr_cX13_row_51 : decode cX13_row 51 = .ok (.putfield 19, 3) := by decide +kernel
theorem dr_cX13_row_54 : decode cX13_row 54 = .ok (.aload_n 1, 1) := by decide +kernel
theorem dr_cX13_row_55 : decode cX13_row 55 = .ok (.iconst 0, 1) := by decide +kernel
theorem dr_cX13_row_56 : decode cX13_row 56 = .ok (.putfield 48, 3) := by decide +kernel
theorem wr_9_196 : (Jvm.Cond.fieldLink "SpillForgeModel$Code" (48 : Nat) "SpillForgeModel$Row" "regA" "Z") ∈ gw := gw_9 196 rfl rfl
theorem dr_cX13_row_59 : decode cX13_row 59 = .ok (.aload_n 1, 1) := by decide +kernel
theorem dr_cX13_row_60 : decode cX13_row 60 = .ok (.iconst 0, 1) := by decide +kernel
theorem dr_cX13_row_61 : decode cX13_row 61 = .ok (.putfield 52, 3) := by decide +kernel
theorem wr_9_200 : (Jvm.Cond.fieldLink "SpillForgeModel$Code" (52 : Nat) "SpillForgeModel$Row" "regB" "Z") ∈ gw := gw_9 200 rfl rfl
theorem dr_cX13_row_64 : decode cX13_row 64 = .ok (.aload_n 1, 1) := by decide +kernel
theorem dr_cX13_row_65 : decode cX13_row 65 = .ok (.iconst 0, 1) := by decide +kernel
theorem dr_cX13_row_66 : decode cX13_row 66 = .ok (.putfield 55, 3) := by decide +kernel
theorem wr_9_184 : (Jvm.Cond.fieldLink "SpillForgeModel$Code" (55 : Nat) "SpillForgeModel$Row" "a" "I") ∈ gw := gw_9 184 rfl rfl
theorem dr_cX13_row_69 : decode cX13_row 69 = .ok (.aload_n 1, 1) := by decide +kernel
theorem dr_cX13_row_70 : decode cX13_row 70 = .ok (.iconst 0, 1) := by decide +kernel
theorem dr_cX13_row_71 : decode cX13_row 71 = .ok (.putfield 58, 3) := by decide +kernel
theorem wr_9_188 : (Jvm.Cond.fieldLink "SpillForgeModel$Code" (58 : Nat) "SpillForgeModel$Row" "b" "I") ∈ gw := gw_9 188 rfl rfl
theorem dr_cX13_row_74 : decode cX13_row 74 = .ok (.aload_n 1, 1) := by decide +kernel
theorem dr_cX13_row_75 : decode cX13_row 75 = .ok (.iconst 0, 1) := by decide +kernel
theorem dr_cX13_row_76 : decode cX13_row 76 = .ok (.putfield 61, 3) := by decide +kernel
theorem wr_9_180 : (Jvm.Cond.fieldLink "SpillForgeModel$Code" (61 : Nat) "SpillForgeModel$Row" "t" "I") ∈ gw := gw_9 180 rfl rfl
theorem dr_cX13_row_79 : decode cX13_row 79 = .ok (.aload_n 1, 1) := by decide +kernel
theorem dr_cX13_row_80 : decode cX13_row 80 = .ok (.iconst 0, 1) := by decide +kernel
theorem dr_cX13_row_81 : decode cX13_row 81 = .ok (.putfield 64, 3) := by decide +kernel
theorem wr_9_192 : (Jvm.Cond.fieldLink "SpillForgeModel$Code" (64 : Nat) "SpillForgeModel$Row" "slot" "I") ∈ gw := gw_9 192 rfl rfl
theorem dr_cX13_row_84 : decode cX13_row 84 = .ok (.aload_n 1, 1) := by decide +kernel
theorem dr_cX13_row_85 : decode cX13_row 85 = .ok (.areturn, 1) := by decide +kernel
theorem dr_cX15_init_0 : decode cX15_init 0 = .ok (.aload_n 0, 1) := by decide +kernel
theorem dr_cX15_init_1 : decode cX15_init 1 = .ok (.invokespecial 3, 3) := by decide +kernel
theorem wr_9_174 : (Jvm.Cond.methodLink "SpillForgeModel$Row" (3 : Nat) ({ cls := "java/lang/Object", name := "<init>", desc := "()V" } : Jvm.MethodName)) ∈ gw := gw_9 174 rfl rfl
theorem dr_cX15_init_4 : decode cX15_init 4 = .ok (.return_, 1) := by decide +kernel
theorem dr_cX13_row_14 : decode cX13_row 14 = .ok (.aload_n 0, 1) := by decide +kernel
theorem dr_cX13_row_15 : decode cX13_row 15 = .ok (.getfield 16, 3) := by decide +kernel
theorem dr_cX13_row_18 : decode cX13_row 18 = .ok (.new 45, 3) := by decide +kernel
theorem wr_9_170 : (Jvm.Cond.instantiable "SpillForgeModel$Row" (7 : Nat)) ∈ gw := gw_9 170 rfl rfl
theorem dr_cX13_row_21 : decode cX13_row 21 = .ok (.dup, 1) := by decide +kernel
theorem dr_cX13_row_22 : decode cX13_row 22 = .ok (.invokespecial 47, 3) := by decide +kernel
theorem wr_9_173 : (Jvm.Cond.code ({ cls := "SpillForgeModel$Row", name := "<init>", desc := "()V" } : Jvm.MethodName) prog_18_method_1_code (1 : Nat) (Option.none : Option Jvm.ClassFile.FieldType)) ∈ gw := gw_9 173 rfl rfl
theorem wr_9_172 : (Jvm.Cond.instanceMethod ({ cls := "SpillForgeModel$Row", name := "<init>", desc := "()V" } : Jvm.MethodName)) ∈ gw := gw_9 172 rfl rfl
theorem dr_cX13_row_25 : decode cX13_row 25 = .ok (.invokevirtual 33, 3) := by decide +kernel
theorem wr_10_3 : (Jvm.Cond.methodLink "SpillForgeModel$Code" (33 : Nat) ({ cls := "java/util/ArrayList", name := "add", desc := "(Ljava/lang/Object;)Z" } : Jvm.MethodName)) ∈ gw := gw_10 3 rfl rfl
theorem wr_10_6 : (Jvm.Cond.code ({ cls := "java/util/ArrayList", name := "add", desc := "(Ljava/lang/Object;)Z" } : Jvm.MethodName) prog_43_method_25_code (2 : Nat) (Option.some Jvm.ClassFile.FieldType.boolean)) ∈ gw := gw_10 6 rfl rfl
theorem wr_10_4 : (Jvm.Cond.instanceMethod ({ cls := "java/util/ArrayList", name := "add", desc := "(Ljava/lang/Object;)Z" } : Jvm.MethodName)) ∈ gw := gw_10 4 rfl rfl
theorem wr_10_5 : (Jvm.Cond.selects "java/util/ArrayList" ({ cls := "java/util/ArrayList", name := "add", desc := "(Ljava/lang/Object;)Z" } : Jvm.MethodName) ({ cls := "java/util/ArrayList", name := "add", desc := "(Ljava/lang/Object;)Z" } : Jvm.MethodName)) ∈ gw := gw_10 5 rfl rfl
theorem dr_cX13_row_28 : decode cX13_row 28 = .ok (.pop, 1) := by decide +kernel
abbrev ky_2119_Long_numberOfTrailingZeros : gKey := (cJ13_numberOfTrailingZeros_95d88, 3, "java/lang/Long", (some FieldType.int), [], "numberOfTrailingZeros", fun _ _ => True)
def pp_2119_Long_numberOfTrailingZeros (D : va_G) (I : FieldType → ClassId) (P2116 : List Nat) (F2117 : Nat → va_E) (pl2118 : Int64) : Option Value → va_W → Nat → Nat → Prop := fun r w dc ds => (∃ (o2232 : Int32) (z2120 : Int32), r = some (.int o2232) ∧ w = va_pl P2116 F2117 ∧ dc ≤ 0 ∧ ds ≤ 0 ∧ z2120.toInt ≠ 0 ∧ gB o2232 (-2147483648) 2147483647 ∧ gB z2120 (-2147483648) 2147483647 ∧ tr_RLong_numberOfTrailingZeros pl2118 o2232) ∨ (∃ (z2244 : Int32) (z2120 : Int32), r = some (.int z2244) ∧ w = va_pl P2116 F2117 ∧ dc ≤ 0 ∧ ds ≤ 0 ∧ z2120.toInt = 0 ∧ gB z2244 (-2147483648) 2147483647 ∧ gB z2120 0 0 ∧ tr_RLong_numberOfTrailingZeros pl2118 z2244)
set_option maxRecDepth 100000 in
set_option maxHeartbeats 4000000 in
theorem cp_2119_Long_numberOfTrailingZeros (l : Launch) (hl0 : l.stackTraces = false) (D : va_G) (I : FieldType → ClassId) (P2116 : List Nat) (F2117 : Nat → va_E) (pl2118 : Int64)  : CtA (gV D I) l yJ13_numberOfTrailingZeros_95d88 cJ13_numberOfTrailingZeros_95d88 3 (some FieldType.int) 1 21 0 0 [.long pl2118] (va_pl P2116 F2117) (pp_2119_Long_numberOfTrailingZeros D I P2116 F2117 pl2118) gNA := by
  refine CtA_ofF hl0 (by decide +kernel) (Nat.le_of_ble_eq_true rfl) ?_
  refine G_lload_n 0 dr_cJ13_numberOfTrailingZeros_95d88_0 rfl ?_
  refine G_l2i dr_cJ13_numberOfTrailingZeros_95d88_1 (G_nam fun z2120 hz2120 => ?_)
  have bz2120 : gB z2120 (-2147483648) 2147483647 := gB_any z2120
  refine G_istore_n (L' := [(2, .int z2120), (0, .long pl2118)]) dr_cJ13_numberOfTrailingZeros_95d88_2 (Nat.le_of_ble_eq_true rfl) rfl ?_
  refine G_iload_n 0 dr_cJ13_numberOfTrailingZeros_95d88_3 rfl ?_
  refine G_if_ne 21 dr_cJ13_numberOfTrailingZeros_95d88_4 (by decide +kernel) (fun hc2121 => ?_) (fun hc2121 => ?_)
  · have r2122 : z2120.toInt ≠ 0 := gj_neq hc2121 (show Int32.toInt 0 = 0 by decide)
    refine G_iload_n 0 dr_cJ13_numberOfTrailingZeros_95d88_21 rfl ?_
    refine Gw_callS (As := [.int z2120]) (gV_ok D I) (cp_2126_Integer_numberOfTrailingZeros l hl0 D I P2116 F2117 z2120 ) dr_cJ13_numberOfTrailingZeros_95d88_22 ⟨wr_11_4, wr_1_35, wr_11_6, by decide, rfl, (Nat.le_of_ble_eq_true rfl), (Nat.le_of_ble_eq_true rfl)⟩ wr_11_5 (show 0 + 0 ≤ 0 by first | omega | decide) (show 0 + 0 ≤ 0 by first | omega | decide) (Nat.le_of_ble_eq_true rfl) (fun r2230 w2231 dc2227 ds2228 hp2229 => ?_) (fun _ _ _ _ _ z => z.elim)
    obtain ⟨o2232, rfl, rfl, hdc, hds, ht2233⟩ := hp2229
    have bo2232 := gB_any o2232
    change G _ _ _ _ _ _ _ (.int o2232 :: _) _ _ _
    refine G_widen (cs' := 0) (sl' := 0) (by omega) (by omega) ?_
    exact G_iretA dr_cJ13_numberOfTrailingZeros_95d88_25 rfl (Nat.le_of_ble_eq_true rfl) (Nat.le_of_ble_eq_true rfl) (Or.inl ⟨o2232, z2120, rfl, rfl, (Nat.le_of_ble_eq_true rfl), (Nat.le_of_ble_eq_true rfl), r2122, bo2232, bz2120, (fun R c1 c2 => c1 z2120 o2232 hz2120 r2122 ht2233)⟩)
  · have r2234 : z2120.toInt = 0 := gj_eq hc2121 (show Int32.toInt 0 = 0 by decide)
    have bz2120' : gB z2120 0 0 := ⟨by omega, by omega⟩
    refine G_bipush 32 dr_cJ13_numberOfTrailingZeros_95d88_7 (by decide +kernel) ?_
    refine G_lload_n 1 dr_cJ13_numberOfTrailingZeros_95d88_9 rfl ?_
    refine G_bipush 32 dr_cJ13_numberOfTrailingZeros_95d88_10 (by decide +kernel) ?_
    refine G_lushr dr_cJ13_numberOfTrailingZeros_95d88_12 (G_namL fun u2235 hu2235 => ?_)
    refine G_l2i dr_cJ13_numberOfTrailingZeros_95d88_13 (G_nam fun z2236 hz2236 => ?_)
    have bz2236 : gB z2236 (-2147483648) 2147483647 := gB_any z2236
    refine Gw_callS (As := [.int z2236]) (gV_ok D I) (cp_2126_Integer_numberOfTrailingZeros l hl0 D I P2116 F2117 z2236 ) dr_cJ13_numberOfTrailingZeros_95d88_14 ⟨wr_11_4, wr_1_35, wr_11_6, by decide, rfl, (Nat.le_of_ble_eq_true rfl), (Nat.le_of_ble_eq_true rfl)⟩ wr_11_5 (show 0 + 0 ≤ 0 by first | omega | decide) (show 0 + 0 ≤ 0 by first | omega | decide) (Nat.le_of_ble_eq_true rfl) (fun r2240 w2241 dc2237 ds2238 hp2239 => ?_) (fun _ _ _ _ _ z => z.elim)
    obtain ⟨o2242, rfl, rfl, hdc, hds, ht2243⟩ := hp2239
    have bo2242 := gB_any o2242
    change G _ _ _ _ _ _ _ (.int o2242 :: _) _ _ _
    refine G_widen (cs' := 0) (sl' := 0) (by omega) (by omega) ?_
    refine G_iadd dr_cJ13_numberOfTrailingZeros_95d88_17 (G_nam fun z2244 hz2244 => ?_)
    have bz2244 : gB z2244 (-2147483648) 2147483647 := gB_any z2244
    refine G_goto 25 dr_cJ13_numberOfTrailingZeros_95d88_18 (by decide +kernel) ?_
    exact G_iretA dr_cJ13_numberOfTrailingZeros_95d88_25 rfl (Nat.le_of_ble_eq_true rfl) (Nat.le_of_ble_eq_true rfl) (Or.inr (⟨z2244, z2120, rfl, rfl, (Nat.le_of_ble_eq_true rfl), (Nat.le_of_ble_eq_true rfl), r2234, bz2244, bz2120', (fun R c1 c2 => c2 z2120 u2235 z2236 o2242 z2244 hz2120 r2234 hu2235 hz2236 ht2243 hz2244)⟩))
/- tr_RReader_isDigit: result -/
def tr_RReader_isDigit (a0 : Int32) (o1 : Int32) : Prop := ∀ R : (Int32) → Prop,
  (a0.toInt < 48 → R (0 : Int32)) →
  (48 ≤ a0.toInt → 57 < a0.toInt → R (0 : Int32)) →
  (48 ≤ a0.toInt → a0.toInt ≤ 57 → R (1 : Int32)) →
  R o1
abbrev ky_2248_Reader_isDigit : gKey := (cX14_isDigit, 1, "SpillForgeModel$Reader", (some FieldType.boolean), [], "isDigit", fun _ _ => True)
def pp_2248_Reader_isDigit (D : va_G) (I : FieldType → ClassId) (P2245 : List Nat) (F2246 : Nat → va_E) (p2247 : Int32) : Option Value → va_W → Nat → Nat → Prop := fun r w dc ds => (r = some (.int 0) ∧ w = va_pl P2245 F2246 ∧ dc ≤ 0 ∧ ds ≤ 0 ∧ p2247.toInt < 48 ∧ tr_RReader_isDigit p2247 (0 : Int32)) ∨ (r = some (.int 0) ∧ w = va_pl P2245 F2246 ∧ dc ≤ 0 ∧ ds ≤ 0 ∧ 48 ≤ p2247.toInt ∧ 57 < p2247.toInt ∧ tr_RReader_isDigit p2247 (0 : Int32)) ∨ (r = some (.int 1) ∧ w = va_pl P2245 F2246 ∧ dc ≤ 0 ∧ ds ≤ 0 ∧ 48 ≤ p2247.toInt ∧ p2247.toInt ≤ 57 ∧ tr_RReader_isDigit p2247 (1 : Int32))
set_option maxRecDepth 100000 in
set_option maxHeartbeats 4000000 in
theorem cp_2248_Reader_isDigit (l : Launch) (hl0 : l.stackTraces = false) (D : va_G) (I : FieldType → ClassId) (P2245 : List Nat) (F2246 : Nat → va_E) (p2247 : Int32)  : CtA (gV D I) l yX14_isDigit cX14_isDigit 1 (some FieldType.boolean) 0 0 0 0 [.int p2247] (va_pl P2245 F2246) (pp_2248_Reader_isDigit D I P2245 F2246 p2247) gNA := by
  refine CtA_of hl0 (by decide) (Nat.le_of_ble_eq_true rfl) ?_
  have bp2247 := gB_any p2247
  refine G_iload_n 0 dr_cX14_isDigit_0 rfl ?_
  refine G_bipush 48 dr_cX14_isDigit_1 (by decide +kernel) ?_
  refine G_icmp_lt 16 dr_cX14_isDigit_3 (by decide +kernel) (fun hc2249 => ?_) (fun hc2249 => ?_)
  · have r2250 : p2247.toInt < 48 := gj_lt hc2249 (show Int32.toInt 48 = 48 by decide)
    have bp2247' : gB p2247 (-2147483648) 47 := ⟨by omega, by omega⟩
    refine G_iconst 0 dr_cX14_isDigit_16 (by decide +kernel) ?_
    exact G_zretA FieldType.boolean dr_cX14_isDigit_17 rfl rfl (Nat.le_of_ble_eq_true rfl) (Nat.le_of_ble_eq_true rfl) (Or.inl ⟨rfl, rfl, (Nat.le_of_ble_eq_true rfl), (Nat.le_of_ble_eq_true rfl), r2250, (fun R c1 c2 c3 => c1 r2250)⟩)
  · have r2251 : 48 ≤ p2247.toInt := gj_nlt hc2249 (show Int32.toInt 48 = 48 by decide)
    have bp2247' : gB p2247 48 2147483647 := ⟨by omega, by omega⟩
    refine G_iload_n 0 dr_cX14_isDigit_6 rfl ?_
    refine G_bipush 57 dr_cX14_isDigit_7 (by decide +kernel) ?_
    refine G_icmp_gt 16 dr_cX14_isDigit_9 (by decide +kernel) (fun hc2252 => ?_) (fun hc2252 => ?_)
    · have r2253 : 57 < p2247.toInt := gj_ltL hc2252 (show Int32.toInt 57 = 57 by decide)
      have bp2247'' : gB p2247 58 2147483647 := ⟨by omega, by omega⟩
      refine G_iconst 0 dr_cX14_isDigit_16 (by decide +kernel) ?_
      exact G_zretA FieldType.boolean dr_cX14_isDigit_17 rfl rfl (Nat.le_of_ble_eq_true rfl) (Nat.le_of_ble_eq_true rfl) (Or.inr (Or.inl ⟨rfl, rfl, (Nat.le_of_ble_eq_true rfl), (Nat.le_of_ble_eq_true rfl), r2251, r2253, (fun R c1 c2 c3 => c2 r2251 r2253)⟩))
    · have r2254 : p2247.toInt ≤ 57 := gj_nltL hc2252 (show Int32.toInt 57 = 57 by decide)
      have bp2247'' : gB p2247 48 57 := ⟨by omega, by omega⟩
      refine G_iconst 1 dr_cX14_isDigit_12 (by decide +kernel) ?_
      refine G_goto 17 dr_cX14_isDigit_13 (by decide +kernel) ?_
      exact G_zretA FieldType.boolean dr_cX14_isDigit_17 rfl rfl (Nat.le_of_ble_eq_true rfl) (Nat.le_of_ble_eq_true rfl) (Or.inr (Or.inr (⟨rfl, rfl, (Nat.le_of_ble_eq_true rfl), (Nat.le_of_ble_eq_true rfl), r2251, r2254, (fun R c1 c2 c3 => c3 r2251 r2254)⟩)))
/- tr_RReader_isLetter: result -/
def tr_RReader_isLetter (a0 : Int32) (o1 : Int32) : Prop := ∀ R : (Int32) → Prop,
  (a0.toInt < 97 → R (0 : Int32)) →
  (97 ≤ a0.toInt → 122 < a0.toInt → R (0 : Int32)) →
  (97 ≤ a0.toInt → a0.toInt ≤ 122 → R (1 : Int32)) →
  R o1
abbrev ky_2258_Reader_isLetter : gKey := (cX14_isLetter, 1, "SpillForgeModel$Reader", (some FieldType.boolean), [], "isLetter", fun _ _ => True)
def pp_2258_Reader_isLetter (D : va_G) (I : FieldType → ClassId) (P2255 : List Nat) (F2256 : Nat → va_E) (p2257 : Int32) : Option Value → va_W → Nat → Nat → Prop := fun r w dc ds => (r = some (.int 0) ∧ w = va_pl P2255 F2256 ∧ dc ≤ 0 ∧ ds ≤ 0 ∧ p2257.toInt < 97 ∧ tr_RReader_isLetter p2257 (0 : Int32)) ∨ (r = some (.int 0) ∧ w = va_pl P2255 F2256 ∧ dc ≤ 0 ∧ ds ≤ 0 ∧ 97 ≤ p2257.toInt ∧ 122 < p2257.toInt ∧ tr_RReader_isLetter p2257 (0 : Int32)) ∨ (r = some (.int 1) ∧ w = va_pl P2255 F2256 ∧ dc ≤ 0 ∧ ds ≤ 0 ∧ 97 ≤ p2257.toInt ∧ p2257.toInt ≤ 122 ∧ tr_RReader_isLetter p2257 (1 : Int32))
set_option maxRecDepth 100000 in
set_option maxHeartbeats 4000000 in
theorem cp_2258_Reader_isLetter (l : Launch) (hl0 : l.stackTraces = false) (D : va_G) (I : FieldType → ClassId) (P2255 : List Nat) (F2256 : Nat → va_E) (p2257 : Int32)  : CtA (gV D I) l yX14_isLetter cX14_isLetter 1 (some FieldType.boolean) 0 0 0 0 [.int p2257] (va_pl P2255 F2256) (pp_2258_Reader_isLetter D I P2255 F2256 p2257) gNA := by
  refine CtA_of hl0 (by decide) (Nat.le_of_ble_eq_true rfl) ?_
  have bp2257 := gB_any p2257
  refine G_iload_n 0 dr_cX14_isLetter_0 rfl ?_
  refine G_bipush 97 dr_cX14_isLetter_1 (by decide +kernel) ?_
  refine G_icmp_lt 16 dr_cX14_isLetter_3 (by decide +kernel) (fun hc2259 => ?_) (fun hc2259 => ?_)
  · have r2260 : p2257.toInt < 97 := gj_lt hc2259 (show Int32.toInt 97 = 97 by decide)
    have bp2257' : gB p2257 (-2147483648) 96 := ⟨by omega, by omega⟩
    refine G_iconst 0 dr_cX14_isLetter_16 (by decide +kernel) ?_
    exact G_zretA FieldType.boolean dr_cX14_isLetter_17 rfl rfl (Nat.le_of_ble_eq_true rfl) (Nat.le_of_ble_eq_true rfl) (Or.inl ⟨rfl, rfl, (Nat.le_of_ble_eq_true rfl), (Nat.le_of_ble_eq_true rfl), r2260, (fun R c1 c2 c3 => c1 r2260)⟩)
  · have r2261 : 97 ≤ p2257.toInt := gj_nlt hc2259 (show Int32.toInt 97 = 97 by decide)
    have bp2257' : gB p2257 97 2147483647 := ⟨by omega, by omega⟩
    refine G_iload_n 0 dr_cX14_isLetter_6 rfl ?_
    refine G_bipush 122 dr_cX14_isLetter_7 (by decide +kernel) ?_
    refine G_icmp_gt 16 dr_cX14_isLetter_9 (by decide +kernel) (fun hc2262 => ?_) (fun hc2262 => ?_)
    · have r2263 : 122 < p2257.toInt := gj_ltL hc2262 (show Int32.toInt 122 = 122 by decide)
      have bp2257'' : gB p2257 123 2147483647 := ⟨by omega, by omega⟩
      refine G_iconst 0 dr_cX14_isLetter_16 (by decide +kernel) ?_
      exact G_zretA FieldType.boolean dr_cX14_isLetter_17 rfl rfl (Nat.le_of_ble_eq_true rfl) (Nat.le_of_ble_eq_true rfl) (Or.inr (Or.inl ⟨rfl, rfl, (Nat.le_of_ble_eq_true rfl), (Nat.le_of_ble_eq_true rfl), r2261, r2263, (fun R c1 c2 c3 => c2 r2261 r2263)⟩))
    · have r2264 : p2257.toInt ≤ 122 := gj_nltL hc2262 (show Int32.toInt 122 = 122 by decide)
      have bp2257'' : gB p2257 97 122 := ⟨by omega, by omega⟩
      refine G_iconst 1 dr_cX14_isLetter_12 (by decide +kernel) ?_
      refine G_goto 17 dr_cX14_isLetter_13 (by decide +kernel) ?_
      exact G_zretA FieldType.boolean dr_cX14_isLetter_17 rfl rfl (Nat.le_of_ble_eq_true rfl) (Nat.le_of_ble_eq_true rfl) (Or.inr (Or.inr (⟨rfl, rfl, (Nat.le_of_ble_eq_true rfl), (Nat.le_of_ble_eq_true rfl), r2261, r2264, (fun R c1 c2 c3 => c3 r2261 r2264)⟩)))
abbrev ky_2299_ArrayList_size : gKey := (cJx4a65c_size_8abf5, 1, "java/util/ArrayList", (some FieldType.int), [], "size", fun _ _ => True)
def pp_2299_ArrayList_size (D : va_G) (I : FieldType → ClassId) (P2290 : List Nat) (F2291 : Nat → va_E) (q2292 : Nat) (q2293 : Nat) (p2294 : Int32) (p2295 : Int32) (f2296 : Nat → Option Nat) (n2297 : Nat) : Option Value → va_W → Nat → Nat → Prop := fun r w dc ds => r = some (.int p2295) ∧ w = va_pl P2290 F2291 ∧ dc ≤ 0 ∧ ds ≤ 0
set_option maxRecDepth 100000 in
set_option maxHeartbeats 4000000 in
theorem cp_2299_ArrayList_size (l : Launch) (hl0 : l.stackTraces = false) (D : va_G) (I : FieldType → ClassId) (P2290 : List Nat) (F2291 : Nat → va_E) (q2292 : Nat) (q2293 : Nat) (p2294 : Int32) (p2295 : Int32) (f2296 : Nat → Option Nat) (n2297 : Nat) (hmq2292 : q2292 ∈ P2290) (hmq2293 : q2293 ∈ P2290) (heq2292 : F2291 q2292 = .inr (4, [.int p2294, .ref q2293, .int p2295])) (heq2293 : F2291 q2293 = .inl (I (.object "java/lang/Object"), n2297, .inr (.inr (.inr (.inr f2296))))) (bp2295 : gB p2295 0 16777216) (x2298 : ((n2297 : Int) ≤ 16777216)) : CtA (gV D I) l yJx4a65c_size_8abf5 cJx4a65c_size_8abf5 1 (some FieldType.int) 0 0 0 0 [.ref q2292] (va_pl P2290 F2291) (pp_2299_ArrayList_size D I P2290 F2291 q2292 q2293 p2294 p2295 f2296 n2297) gNA := by
  refine CtA_ofF hl0 (by decide +kernel) (Nat.le_of_ble_eq_true rfl) ?_
  have bp2294 := gB_any p2294
  refine G_aload_n 0 dr_cJx4a65c_size_8abf5_0 rfl ?_
  refine Gp_get 2 hmq2292 heq2292 dr_cJx4a65c_size_8abf5_1 (gk_Jx4a65c D I) (Nat.le_of_ble_eq_true rfl) wr_7_18 rfl ?_
  exact G_iretA dr_cJx4a65c_size_8abf5_4 rfl (Nat.le_of_ble_eq_true rfl) (Nat.le_of_ble_eq_true rfl) ⟨rfl, rfl, (Nat.le_of_ble_eq_true rfl), (Nat.le_of_ble_eq_true rfl)⟩
abbrev ky_2289_Code_row : gKey := (cX13_row, 2, "SpillForgeModel$Code", (some (FieldType.object "SpillForgeModel$Row")), [], "row", fun _ _ => True)
def pp_2289_Code_row (D : va_G) (I : FieldType → ClassId) (P2265 : List Nat) (F2266 : Nat → va_E) (q2267 : Nat) (q2268 : Nat) (q2269 : Nat) (qo2270 : Nat) (p2271 : Int32) (p2272 : Int32) (p2273 : Int32) (p2274 : Int32) (f2275 : Nat → Option Nat) (n2276 : Nat) (x2277 : Nat) (p2278 : Int32) (p2279 : Int32) (p2280 : Int32) (p2281 : Int32) (p2282 : Int32) (p2283 : Int32) (p2284 : Int32) : Option Value → va_W → Nat → Nat → Prop := fun r w dc ds => ∃ (F2373 : Nat → va_E) (o2371 : Int32), r = some (.ref x2277) ∧ w = va_pl P2265 F2373 ∧ rFr [x2277, q2267] P2265 F2266 F2373 ∧ F2373 q2267 = .inr (18, [.ref qo2270, .ref q2268, .int o2371, .int p2272]) ∧ F2373 q2268 = .inr (4, [.int p2273, .ref q2269, .int p2274]) ∧ F2373 q2269 = .inl (I (.object "java/lang/Object"), n2276, .inr (.inr (.inr (.inr f2275)))) ∧ F2373 x2277 = .inr (20, [.int p2278, .int 0, .int 0, .int 0, .int 0, .int 0, .int 0]) ∧ dc ≤ 0 ∧ ds ≤ 0 ∧ gB o2371 1 1000001 ∧ o2371.toInt = p2271.toInt + 1
set_option maxRecDepth 100000 in
set_option maxHeartbeats 4000000 in
theorem cp_2289_Code_row (l : Launch) (hl0 : l.stackTraces = false) (D : va_G) (I : FieldType → ClassId) (P2265 : List Nat) (F2266 : Nat → va_E) (q2267 : Nat) (q2268 : Nat) (q2269 : Nat) (qo2270 : Nat) (p2271 : Int32) (p2272 : Int32) (p2273 : Int32) (p2274 : Int32) (f2275 : Nat → Option Nat) (n2276 : Nat) (x2277 : Nat) (p2278 : Int32) (p2279 : Int32) (p2280 : Int32) (p2281 : Int32) (p2282 : Int32) (p2283 : Int32) (p2284 : Int32) (hmq2267 : q2267 ∈ P2265) (hmq2268 : q2268 ∈ P2265) (hmq2269 : q2269 ∈ P2265) (hmx2277 : x2277 ∈ P2265) (heq2267 : F2266 q2267 = .inr (18, [.ref qo2270, .ref q2268, .int p2271, .int p2272])) (heq2268 : F2266 q2268 = .inr (4, [.int p2273, .ref q2269, .int p2274])) (heq2269 : F2266 q2269 = .inl (I (.object "java/lang/Object"), n2276, .inr (.inr (.inr (.inr f2275))))) (hex2277 : F2266 x2277 = .inr (20, [.int p2278, .int p2279, .int p2280, .int p2281, .int p2282, .int p2283, .int p2284])) (bp2271 : gB p2271 0 1000000) (bp2272 : gB p2272 0 1000000) (bp2274 : gB p2274 0 1000000) (bp2278 : gB p2278 0 32) (bp2279 : gB p2279 0 1999) (bp2282 : gB p2282 0 1999) (bp2283 : gB p2283 0 1) (bp2284 : gB p2284 0 1) (x2285 : p2271.toInt < p2274.toInt) (x2286 : p2274.toInt ≤ (n2276 : Int)) (x2287 : f2275 p2271.toNatClampNeg = some x2277) (x2288 : ((n2276 : Int) ≤ 16777216)) : CtA (gV D I) l yX13_row cX13_row 2 (some (FieldType.object "SpillForgeModel$Row")) 3 64 0 0 [.ref q2267] (va_pl P2265 F2266) (pp_2289_Code_row D I P2265 F2266 q2267 q2268 q2269 qo2270 p2271 p2272 p2273 p2274 f2275 n2276 x2277 p2278 p2279 p2280 p2281 p2282 p2283 p2284) gNA := by
  refine CtA_of hl0 (by decide) (Nat.le_of_ble_eq_true rfl) ?_
  have bp2273 := gB_any p2273
  have bp2280 := gB_any p2280
  have bp2281 := gB_any p2281
  refine G_aload_n 0 dr_cX13_row_0 rfl ?_
  refine Gp_get 2 hmq2267 heq2267 dr_cX13_row_1 (gk_X13 D I) (Nat.le_of_ble_eq_true rfl) wr_7_32 rfl ?_
  refine G_aload_n 0 dr_cX13_row_4 rfl ?_
  refine Gp_get 1 hmq2267 heq2267 dr_cX13_row_5 (gk_X13 D I) (Nat.le_of_ble_eq_true rfl) wr_7_31 rfl ?_
  refine Gw_callV (As := []) (gV_ok D I) (cp_2299_ArrayList_size l hl0 D I P2265 F2266 q2268 q2269 p2273 p2274 f2275 n2276 hmq2268 hmq2269 heq2268 heq2269 (gB_w bp2274 (by decide) (by decide)) (by omega)) dr_cX13_row_8 ⟨wr_9_157, wr_1_18, wr_9_160, by decide, rfl, (Nat.le_of_ble_eq_true rfl), (Nat.le_of_ble_eq_true rfl)⟩ wr_9_158 wr_9_159 hmq2268 heq2268 rfl (show 0 + 0 ≤ 0 by first | omega | decide) (show 0 + 0 ≤ 0 by first | omega | decide) (Nat.le_of_ble_eq_true rfl) (fun r2303 w2304 dc2300 ds2301 hp2302 => ?_) (fun _ _ _ _ _ z => z.elim)
  obtain ⟨rfl, rfl, hdc, hds⟩ := hp2302
  change G _ _ _ _ _ _ _ (.int p2274 :: _) _ _ _
  refine G_widen (cs' := 0) (sl' := 0) (by omega) (by omega) ?_
  refine G_icmp_ne 29 dr_cX13_row_11 (by decide +kernel) (fun hc2305 => ?_) (fun hc => absurd (show False by have := gC_eq hc; omega) not_false)
  have r2307 : p2271.toInt ≠ p2274.toInt := gC_ne hc2305
  refine G_aload_n 0 dr_cX13_row_29 rfl ?_
  refine Gp_get 1 hmq2267 heq2267 dr_cX13_row_30 (gk_X13 D I) (Nat.le_of_ble_eq_true rfl) wr_7_31 rfl ?_
  refine G_aload_n 0 dr_cX13_row_33 rfl ?_
  refine Gp_get 2 hmq2267 heq2267 dr_cX13_row_34 (gk_X13 D I) (Nat.le_of_ble_eq_true rfl) wr_7_32 rfl ?_
  refine Gw_callV (As := [.int p2271]) (gV_ok D I) (cp_22_ArrayList_get l hl0 D I P2265 F2266 q2268 q2269 p2271 p2273 p2274 f2275 n2276 x2277 hmq2268 hmq2269 heq2268 heq2269 (gB_w bp2271 (by decide) (by decide)) (gB_w bp2274 (by decide) (by decide)) (by omega) (by omega) (by assumption) (by omega)) dr_cX13_row_37 ⟨wr_10_62, wr_1_18, wr_10_65, by decide, rfl, (Nat.le_of_ble_eq_true rfl), (Nat.le_of_ble_eq_true rfl)⟩ wr_10_63 wr_10_64 hmq2268 heq2268 rfl (show 0 + 0 ≤ 0 by first | omega | decide) (show 0 + 0 ≤ 0 by first | omega | decide) (Nat.le_of_ble_eq_true rfl) (fun r2311 w2312 dc2308 ds2309 hp2310 => ?_) (fun _ _ _ _ _ z => z.elim)
  obtain ⟨rfl, rfl, hdc, hds, ht2313⟩ := hp2310
  change G _ _ _ _ _ _ _ (.ref x2277 :: _) _ _ _
  refine G_widen (cs' := 0) (sl' := 0) (by omega) (by omega) ?_
  refine Gp_cast hmx2277 hex2277 rfl dr_cX13_row_40 wr_10_83 (gr_cast 1 rfl) ?_
  refine G_astore_n (L' := [(1, .ref x2277), (0, .ref q2267)]) dr_cX13_row_43 (Nat.le_of_ble_eq_true rfl) rfl ?_
  refine G_aload_n 1 dr_cX13_row_44 rfl ?_
  refine G_dup dr_cX13_row_45 rfl ?_
  refine Gp_get 2 hmq2267 heq2267 dr_cX13_row_46 (gk_X13 D I) (Nat.le_of_ble_eq_true rfl) wr_7_32 rfl ?_
  refine G_iconst 1 dr_cX13_row_49 (by decide +kernel) ?_
  refine G_iadd dr_cX13_row_50 (G_nam fun z2314 hz2314 => ?_)
  have ez2314 : z2314.toInt = p2271.toInt + 1 := by rw [gI_add hz2314 bp2271 (gBl (show Int32.toInt 1 = 1 by decide)) (by decide) (by decide), show Int32.toInt 1 = 1 from by decide]
  have bz2314 : gB z2314 1 1000001 := gB_add (gI_add hz2314 bp2271 (gBl (show Int32.toInt 1 = 1 by decide)) (by decide) (by decide)) bp2271 (gBl (show Int32.toInt 1 = 1 by decide)) (by decide) (by decide)
  refine Gp_put 2 hmq2267 heq2267 dr_cX13_row_51 (gk_X13 D I) (Nat.le_of_ble_eq_true rfl) wr_7_32 rfl rfl rfl (Nat.le_of_ble_eq_true rfl) (fun F2315 e2316 n2317 => ?_)
  have he2318 : F2315 q2268 = .inr (4, [.int p2273, .ref q2269, .int p2274]) := (n2317 q2268 (rn_oo heq2268 heq2267 (by decide))).trans heq2268
  have he2319 : F2315 q2269 = .inl (I (.object "java/lang/Object"), n2276, .inr (.inr (.inr (.inr f2275)))) := (n2317 q2269 (rn_ao heq2269 heq2267)).trans heq2269
  have he2320 : F2315 x2277 = .inr (20, [.int p2278, .int p2279, .int p2280, .int p2281, .int p2282, .int p2283, .int p2284]) := (n2317 x2277 (rn_oo hex2277 heq2267 (by decide))).trans hex2277
  have he2321 : F2315 q2267 = .inr (18, [.ref qo2270, .ref q2268, .int z2314, .int p2272]) := e2316
  have hfr2322 : rFr [q2267] P2265 F2266 F2315 := rFr_put (rFr_rf (W := []) (P := P2265) (F := F2266)) n2317
  refine G_aload_n 0 dr_cX13_row_54 rfl ?_
  refine G_iconst 0 dr_cX13_row_55 (by decide +kernel) ?_
  refine Gp_put 5 hmx2277 he2320 dr_cX13_row_56 (gk_X15 D I) (Nat.le_of_ble_eq_true rfl) wr_9_196 rfl rfl rfl (Nat.le_of_ble_eq_true rfl) (fun F2323 e2324 n2325 => ?_)
  have he2326 : F2323 q2267 = .inr (18, [.ref qo2270, .ref q2268, .int z2314, .int p2272]) := (n2325 q2267 (rn_oo he2321 he2320 (by decide))).trans he2321
  have he2327 : F2323 q2268 = .inr (4, [.int p2273, .ref q2269, .int p2274]) := (n2325 q2268 (rn_oo he2318 he2320 (by decide))).trans he2318
  have he2328 : F2323 q2269 = .inl (I (.object "java/lang/Object"), n2276, .inr (.inr (.inr (.inr f2275)))) := (n2325 q2269 (rn_ao he2319 he2320)).trans he2319
  have he2329 : F2323 x2277 = .inr (20, [.int p2278, .int p2279, .int p2280, .int p2281, .int p2282, .int 0, .int p2284]) := e2324
  have hfr2330 : rFr [x2277, q2267] P2265 F2266 F2323 := rFr_put hfr2322 n2325
  refine G_aload_n 0 dr_cX13_row_59 rfl ?_
  refine G_iconst 0 dr_cX13_row_60 (by decide +kernel) ?_
  refine Gp_put 6 hmx2277 he2329 dr_cX13_row_61 (gk_X15 D I) (Nat.le_of_ble_eq_true rfl) wr_9_200 rfl rfl rfl (Nat.le_of_ble_eq_true rfl) (fun F2331 e2332 n2333 => ?_)
  have he2334 : F2331 q2267 = .inr (18, [.ref qo2270, .ref q2268, .int z2314, .int p2272]) := (n2333 q2267 (rn_oo he2326 he2329 (by decide))).trans he2326
  have he2335 : F2331 q2268 = .inr (4, [.int p2273, .ref q2269, .int p2274]) := (n2333 q2268 (rn_oo he2327 he2329 (by decide))).trans he2327
  have he2336 : F2331 q2269 = .inl (I (.object "java/lang/Object"), n2276, .inr (.inr (.inr (.inr f2275)))) := (n2333 q2269 (rn_ao he2328 he2329)).trans he2328
  have he2337 : F2331 x2277 = .inr (20, [.int p2278, .int p2279, .int p2280, .int p2281, .int p2282, .int 0, .int 0]) := e2332
  have hfr2338 : rFr [x2277, q2267] P2265 F2266 F2331 := rFr_put' List.mem_cons_self hfr2330 n2333
  refine G_aload_n 0 dr_cX13_row_64 rfl ?_
  refine G_iconst 0 dr_cX13_row_65 (by decide +kernel) ?_
  refine Gp_put 2 hmx2277 he2337 dr_cX13_row_66 (gk_X15 D I) (Nat.le_of_ble_eq_true rfl) wr_9_184 rfl rfl rfl (Nat.le_of_ble_eq_true rfl) (fun F2339 e2340 n2341 => ?_)
  have he2342 : F2339 q2267 = .inr (18, [.ref qo2270, .ref q2268, .int z2314, .int p2272]) := (n2341 q2267 (rn_oo he2334 he2337 (by decide))).trans he2334
  have he2343 : F2339 q2268 = .inr (4, [.int p2273, .ref q2269, .int p2274]) := (n2341 q2268 (rn_oo he2335 he2337 (by decide))).trans he2335
  have he2344 : F2339 q2269 = .inl (I (.object "java/lang/Object"), n2276, .inr (.inr (.inr (.inr f2275)))) := (n2341 q2269 (rn_ao he2336 he2337)).trans he2336
  have he2345 : F2339 x2277 = .inr (20, [.int p2278, .int p2279, .int 0, .int p2281, .int p2282, .int 0, .int 0]) := e2340
  have hfr2346 : rFr [x2277, q2267] P2265 F2266 F2339 := rFr_put' List.mem_cons_self hfr2338 n2341
  refine G_aload_n 0 dr_cX13_row_69 rfl ?_
  refine G_iconst 0 dr_cX13_row_70 (by decide +kernel) ?_
  refine Gp_put 3 hmx2277 he2345 dr_cX13_row_71 (gk_X15 D I) (Nat.le_of_ble_eq_true rfl) wr_9_188 rfl rfl rfl (Nat.le_of_ble_eq_true rfl) (fun F2347 e2348 n2349 => ?_)
  have he2350 : F2347 q2267 = .inr (18, [.ref qo2270, .ref q2268, .int z2314, .int p2272]) := (n2349 q2267 (rn_oo he2342 he2345 (by decide))).trans he2342
  have he2351 : F2347 q2268 = .inr (4, [.int p2273, .ref q2269, .int p2274]) := (n2349 q2268 (rn_oo he2343 he2345 (by decide))).trans he2343
  have he2352 : F2347 q2269 = .inl (I (.object "java/lang/Object"), n2276, .inr (.inr (.inr (.inr f2275)))) := (n2349 q2269 (rn_ao he2344 he2345)).trans he2344
  have he2353 : F2347 x2277 = .inr (20, [.int p2278, .int p2279, .int 0, .int 0, .int p2282, .int 0, .int 0]) := e2348
  have hfr2354 : rFr [x2277, q2267] P2265 F2266 F2347 := rFr_put' List.mem_cons_self hfr2346 n2349
  refine G_aload_n 0 dr_cX13_row_74 rfl ?_
  refine G_iconst 0 dr_cX13_row_75 (by decide +kernel) ?_
  refine Gp_put 1 hmx2277 he2353 dr_cX13_row_76 (gk_X15 D I) (Nat.le_of_ble_eq_true rfl) wr_9_180 rfl rfl rfl (Nat.le_of_ble_eq_true rfl) (fun F2355 e2356 n2357 => ?_)
  have he2358 : F2355 q2267 = .inr (18, [.ref qo2270, .ref q2268, .int z2314, .int p2272]) := (n2357 q2267 (rn_oo he2350 he2353 (by decide))).trans he2350
  have he2359 : F2355 q2268 = .inr (4, [.int p2273, .ref q2269, .int p2274]) := (n2357 q2268 (rn_oo he2351 he2353 (by decide))).trans he2351
  have he2360 : F2355 q2269 = .inl (I (.object "java/lang/Object"), n2276, .inr (.inr (.inr (.inr f2275)))) := (n2357 q2269 (rn_ao he2352 he2353)).trans he2352
  have he2361 : F2355 x2277 = .inr (20, [.int p2278, .int 0, .int 0, .int 0, .int p2282, .int 0, .int 0]) := e2356
  have hfr2362 : rFr [x2277, q2267] P2265 F2266 F2355 := rFr_put' List.mem_cons_self hfr2354 n2357
  refine G_aload_n 0 dr_cX13_row_79 rfl ?_
  refine G_iconst 0 dr_cX13_row_80 (by decide +kernel) ?_
  refine Gp_put 4 hmx2277 he2361 dr_cX13_row_81 (gk_X15 D I) (Nat.le_of_ble_eq_true rfl) wr_9_192 rfl rfl rfl (Nat.le_of_ble_eq_true rfl) (fun F2363 e2364 n2365 => ?_)
  have he2366 : F2363 q2267 = .inr (18, [.ref qo2270, .ref q2268, .int z2314, .int p2272]) := (n2365 q2267 (rn_oo he2358 he2361 (by decide))).trans he2358
  have he2367 : F2363 q2268 = .inr (4, [.int p2273, .ref q2269, .int p2274]) := (n2365 q2268 (rn_oo he2359 he2361 (by decide))).trans he2359
  have he2368 : F2363 q2269 = .inl (I (.object "java/lang/Object"), n2276, .inr (.inr (.inr (.inr f2275)))) := (n2365 q2269 (rn_ao he2360 he2361)).trans he2360
  have he2369 : F2363 x2277 = .inr (20, [.int p2278, .int 0, .int 0, .int 0, .int 0, .int 0, .int 0]) := e2364
  have hfr2370 : rFr [x2277, q2267] P2265 F2266 F2363 := rFr_put' List.mem_cons_self hfr2362 n2365
  refine G_aload_n 0 dr_cX13_row_84 rfl ?_
  exact G_aretA (FieldType.object "SpillForgeModel$Row") dr_cX13_row_85 rfl (by first | exact Or.inl ⟨_, rfl⟩ | exact Or.inr ⟨_, rfl⟩) (Or.inr ⟨_, rfl⟩) (Nat.le_of_ble_eq_true rfl) (Nat.le_of_ble_eq_true rfl) ⟨F2363, z2314, rfl, rfl, hfr2370, he2366, he2367, he2368, he2369, (Nat.le_of_ble_eq_true rfl), (Nat.le_of_ble_eq_true rfl), bz2314, (by have qa0 : Int32.toInt 0 = 0 := (by decide); omega)⟩
abbrev ky_2427_Row_init : gKey := (cX15_init, 1, "SpillForgeModel$Row", none, [], "<init>", fun _ _ => True)
def pp_2427_Row_init (D : va_G) (I : FieldType → ClassId) (P2417 : List Nat) (F2418 : Nat → va_E) (q2419 : Nat) (p2420 : Int32) (p2421 : Int32) (p2422 : Int32) (p2423 : Int32) (p2424 : Int32) (p2425 : Int32) (p2426 : Int32) : Option Value → va_W → Nat → Nat → Prop := fun r w dc ds => r = none ∧ w = va_pl P2417 F2418 ∧ dc ≤ 0 ∧ ds ≤ 0
set_option maxRecDepth 100000 in
set_option maxHeartbeats 4000000 in
theorem cp_2427_Row_init (l : Launch) (hl0 : l.stackTraces = false) (D : va_G) (I : FieldType → ClassId) (P2417 : List Nat) (F2418 : Nat → va_E) (q2419 : Nat) (p2420 : Int32) (p2421 : Int32) (p2422 : Int32) (p2423 : Int32) (p2424 : Int32) (p2425 : Int32) (p2426 : Int32) (hmq2419 : q2419 ∈ P2417) (heq2419 : F2418 q2419 = .inr (20, [.int p2420, .int p2421, .int p2422, .int p2423, .int p2424, .int p2425, .int p2426])) (bp2420 : gB p2420 0 32) (bp2421 : gB p2421 0 1999) (bp2424 : gB p2424 0 1999) (bp2425 : gB p2425 0 1) (bp2426 : gB p2426 0 1) : CtA (gV D I) l yX15_init cX15_init 1 none 1 12 0 0 [.ref q2419] (va_pl P2417 F2418) (pp_2427_Row_init D I P2417 F2418 q2419 p2420 p2421 p2422 p2423 p2424 p2425 p2426) gNA := by
  refine CtA_of hl0 (by decide) (Nat.le_of_ble_eq_true rfl) ?_
  have bp2422 := gB_any p2422
  have bp2423 := gB_any p2423
  refine G_aload_n 0 dr_cX15_init_0 rfl ?_
  refine G_obj dr_cX15_init_1 wr_9_174 wr_1_51 wr_1_52 (Nat.le_of_ble_eq_true rfl) (Nat.le_of_ble_eq_true rfl) ?_
  exact G_vretA dr_cX15_init_4 rfl (Nat.le_of_ble_eq_true rfl) (Nat.le_of_ble_eq_true rfl) ⟨rfl, rfl, (Nat.le_of_ble_eq_true rfl), (Nat.le_of_ble_eq_true rfl)⟩
abbrev ky_2390_Code_row : gKey := (cX13_row, 2, "SpillForgeModel$Code", (some (FieldType.object "SpillForgeModel$Row")), [], "row", fun _ _ => True)
def pp_2390_Code_row (D : va_G) (I : FieldType → ClassId) (P2374 : List Nat) (F2375 : Nat → va_E) (q2376 : Nat) (q2377 : Nat) (q2378 : Nat) (qo2379 : Nat) (p2380 : Int32) (p2381 : Int32) (p2382 : Int32) (p2383 : Int32) (f2384 : Nat → Option Nat) (n2385 : Nat) : Option Value → va_W → Nat → Nat → Prop := fun r w dc ds => ∃ (P2521 : List Nat) (F2522 : Nat → va_E) (o2516 : Int32) (q2517 : Nat) (o2518 : Int32) (o2519 : Int32) (f2520 : Nat → Option Nat), r = some (.ref q2517) ∧ w = va_pl P2521 F2522 ∧ rSub P2374 P2521 ∧ rFr [q2376, q2377, q2378] P2374 F2375 F2522 ∧ F2522 q2376 = .inr (18, [.ref qo2379, .ref q2377, .int o2516, .int p2381]) ∧ F2522 q2377 = .inr (4, [.int o2518, .ref q2378, .int o2519]) ∧ F2522 q2517 = .inr (20, [.int 0, .int 0, .int 0, .int 0, .int 0, .int 0, .int 0]) ∧ F2522 q2378 = .inl (I (.object "java/lang/Object"), n2385, .inr (.inr (.inr (.inr f2520)))) ∧ q2517 ∈ P2521 ∧ q2517 ∉ P2374 ∧ dc ≤ 1 ∧ ds ≤ 7 ∧ gB o2516 1 1000001 ∧ gB o2519 1 16777217 ∧ o2516.toInt = p2380.toInt + 1 ∧ o2519.toInt = p2383.toInt + 1 ∧ ((∀ j : Nat, (j : Int) < p2383.toInt → f2520 j = f2384 j) ∧ f2520 p2383.toInt.toNat = some q2517) ∧ rSrcX f2520 f2384 q2517
set_option maxRecDepth 100000 in
set_option maxHeartbeats 4000000 in
theorem cp_2390_Code_row (l : Launch) (hl0 : l.stackTraces = false) (D : va_G) (I : FieldType → ClassId) (P2374 : List Nat) (F2375 : Nat → va_E) (q2376 : Nat) (q2377 : Nat) (q2378 : Nat) (qo2379 : Nat) (p2380 : Int32) (p2381 : Int32) (p2382 : Int32) (p2383 : Int32) (f2384 : Nat → Option Nat) (n2385 : Nat) (hmq2376 : q2376 ∈ P2374) (hmq2377 : q2377 ∈ P2374) (hmq2378 : q2378 ∈ P2374) (heq2376 : F2375 q2376 = .inr (18, [.ref qo2379, .ref q2377, .int p2380, .int p2381])) (heq2377 : F2375 q2377 = .inr (4, [.int p2382, .ref q2378, .int p2383])) (heq2378 : F2375 q2378 = .inl (I (.object "java/lang/Object"), n2385, .inr (.inr (.inr (.inr f2384))))) (bp2380 : gB p2380 0 1000000) (bp2381 : gB p2381 0 1000000) (bp2383 : gB p2383 0 1000000) (x2386 : p2380.toInt = p2383.toInt) (x2387 : p2383.toInt < (n2385 : Int)) (x2388 : rEl P2374 F2375 f2384) (x2389 : ((n2385 : Int) ≤ 16777216)) : CtA (gV D I) l yX13_row cX13_row 2 (some (FieldType.object "SpillForgeModel$Row")) 3 64 1 7 [.ref q2376] (va_pl P2374 F2375) (pp_2390_Code_row D I P2374 F2375 q2376 q2377 q2378 qo2379 p2380 p2381 p2382 p2383 f2384 n2385) gNA := by
  refine CtA_of hl0 (by decide) (Nat.le_of_ble_eq_true rfl) ?_
  have bp2382 := gB_any p2382
  refine G_aload_n 0 dr_cX13_row_0 rfl ?_
  refine Gp_get 2 hmq2376 heq2376 dr_cX13_row_1 (gk_X13 D I) (Nat.le_of_ble_eq_true rfl) wr_7_32 rfl ?_
  refine G_aload_n 0 dr_cX13_row_4 rfl ?_
  refine Gp_get 1 hmq2376 heq2376 dr_cX13_row_5 (gk_X13 D I) (Nat.le_of_ble_eq_true rfl) wr_7_31 rfl ?_
  refine Gw_callV (As := []) (gV_ok D I) (cp_2299_ArrayList_size l hl0 D I P2374 F2375 q2377 q2378 p2382 p2383 f2384 n2385 hmq2377 hmq2378 heq2377 heq2378 (gB_w bp2383 (by decide) (by decide)) (by omega)) dr_cX13_row_8 ⟨wr_9_157, wr_1_18, wr_9_160, by decide, rfl, (Nat.le_of_ble_eq_true rfl), (Nat.le_of_ble_eq_true rfl)⟩ wr_9_158 wr_9_159 hmq2377 heq2377 rfl (show 0 + 0 ≤ 1 by first | omega | decide) (show 0 + 0 ≤ 7 by first | omega | decide) (Nat.le_of_ble_eq_true rfl) (fun r2394 w2395 dc2391 ds2392 hp2393 => ?_) (fun _ _ _ _ _ z => z.elim)
  obtain ⟨rfl, rfl, hdc, hds⟩ := hp2393
  change G _ _ _ _ _ _ _ (.int p2383 :: _) _ _ _
  refine G_widen (cs' := 0) (sl' := 0) (by omega) (by omega) ?_
  refine G_icmp_ne 29 dr_cX13_row_11 (by decide +kernel) (fun hc => absurd (show False by have := gC_ne hc; omega) not_false) (fun hc2396 => ?_)
  have r2398 : p2380.toInt = p2383.toInt := gC_eq hc2396
  refine G_aload_n 0 dr_cX13_row_14 rfl ?_
  refine Gp_get 1 hmq2376 heq2376 dr_cX13_row_15 (gk_X13 D I) (Nat.le_of_ble_eq_true rfl) wr_7_31 rfl ?_
  refine G_new [.int 0, .int 0, .int 0, .int 0, .int 0, .int 0, .int 0] dr_cX13_row_18 (gk_X15 D I) wr_10_83 wr_9_170 wr_1_39 (gfs_X15) (show 0 + 1 ≤ 1 by first | omega | decide) (show 0 + 7 ≤ 7 by first | omega | decide) (fun q2399 => Gp_in (fun P2400 F2401 hq2402 hP2403 e2404 n2405 => ?_))
  refine G_widen (cs' := 1) (sl' := 7) (by omega) (by omega) ?_
  have he2406 : F2401 q2376 = .inr (18, [.ref qo2379, .ref q2377, .int p2380, .int p2381]) := (n2405 q2376 (fun h => hq2402 (h ▸ hmq2376))).trans heq2376
  have he2407 : F2401 q2377 = .inr (4, [.int p2382, .ref q2378, .int p2383]) := (n2405 q2377 (fun h => hq2402 (h ▸ hmq2377))).trans heq2377
  have he2408 : F2401 q2378 = .inl (I (.object "java/lang/Object"), n2385, .inr (.inr (.inr (.inr f2384)))) := (n2405 q2378 (fun h => hq2402 (h ▸ hmq2378))).trans heq2378
  have he2409 : F2401 q2399 = .inr (20, [.int 0, .int 0, .int 0, .int 0, .int 0, .int 0, .int 0]) := e2404
  have hm2410 : q2376 ∈ P2400 := (hP2403 q2376).mpr (Or.inl hmq2376)
  have hm2411 : q2377 ∈ P2400 := (hP2403 q2377).mpr (Or.inl hmq2377)
  have hm2412 : q2378 ∈ P2400 := (hP2403 q2378).mpr (Or.inl hmq2378)
  have hm2413 : q2399 ∈ P2400 := (hP2403 q2399).mpr (Or.inr rfl)
  have hq2414 : q2399 ∉ P2374 := fun z => hq2402 ((rSub_rf (P := P2374)) q2399 z)
  have hfr2415 : rFr [] P2374 F2375 F2401 := rFr_new (rSub_rf (P := P2374)) hq2402 (rFr_rf (W := []) (P := P2374) (F := F2375)) n2405
  have hsb2416 : rSub P2374 P2400 := rSub_new (rSub_rf (P := P2374)) hP2403
  refine G_dup dr_cX13_row_21 rfl ?_
  refine Gw_callIN (As := []) (gV_ok D I) (cp_2427_Row_init l hl0 D I P2400 F2401 q2399 0 0 0 0 0 0 0 hm2413 he2409 (gB_w (gBl (show Int32.toInt 0 = 0 by decide)) (by decide) (by decide)) (gB_w (gBl (show Int32.toInt 0 = 0 by decide)) (by decide) (by decide)) (gB_w (gBl (show Int32.toInt 0 = 0 by decide)) (by decide) (by decide)) (gB_w (gBl (show Int32.toInt 0 = 0 by decide)) (by decide) (by decide)) (gB_w (gBl (show Int32.toInt 0 = 0 by decide)) (by decide) (by decide))) dr_cX13_row_22 ⟨(fun _ _ _ h => gn_w 80 rfl h), wr_1_39, wr_9_173, by decide, rfl, (Nat.le_of_ble_eq_true rfl), (Nat.le_of_ble_eq_true rfl)⟩ wr_9_172 rfl (show 1 + 0 ≤ 1 by first | omega | decide) (show 7 + 0 ≤ 7 by first | omega | decide) (Nat.le_of_ble_eq_true rfl) (fun r2431 w2432 dc2428 ds2429 hp2430 => ?_)
  obtain ⟨rfl, rfl, hdc, hds⟩ := hp2430
  change G _ _ _ _ _ _ _ _ _ _ _
  refine G_widen (cs' := 1) (sl' := 7) (by omega) (by omega) ?_
  refine Gw_callV (As := [.ref q2399]) (gV_ok D I) (cp_88_ArrayList_add l hl0 D I P2400 F2401 q2377 q2399 q2378 p2382 p2383 0 0 0 0 0 0 0 f2384 n2385 hm2411 hm2413 hm2412 he2407 he2409 he2408 (gB_w bp2383 (by decide) (by decide)) (gB_w (gBl (show Int32.toInt 0 = 0 by decide)) (by decide) (by decide)) (gB_w (gBl (show Int32.toInt 0 = 0 by decide)) (by decide) (by decide)) (gB_w (gBl (show Int32.toInt 0 = 0 by decide)) (by decide) (by decide)) (gB_w (gBl (show Int32.toInt 0 = 0 by decide)) (by decide) (by decide)) (gB_w (gBl (show Int32.toInt 0 = 0 by decide)) (by decide) (by decide)) (by have qa0 : Int32.toInt 0 = 0 := (by decide); omega) (rEl_frG (rEl_src x2388 rSrc_rf) hsb2416 hfr2415 rNg_n) (by have qa0 : Int32.toInt 0 = 0 := (by decide); omega)) dr_cX13_row_25 ⟨wr_10_3, wr_1_18, wr_10_6, by decide, rfl, (Nat.le_of_ble_eq_true rfl), (Nat.le_of_ble_eq_true rfl)⟩ wr_10_4 wr_10_5 hm2411 he2407 rfl (show 1 + 0 ≤ 1 by first | omega | decide) (show 7 + 0 ≤ 7 by first | omega | decide) (Nat.le_of_ble_eq_true rfl) (fun r2436 w2437 dc2433 ds2434 hp2435 => ?_) (fun _ _ _ _ _ z => z.elim)
  obtain ⟨F2444, o2438, o2439, f2440, rfl, rfl, hfr2446, he2447, he2448, he2449, hdc, hds, bo2439, x2441, x2442, x2443⟩ := hp2435
  have he2450 : F2444 q2376 = .inr (18, [.ref qo2379, .ref q2377, .int p2380, .int p2381]) := (hfr2446 q2376 hm2410 (nm_c (rn_oo he2406 he2407 (by decide)) (nm_c (rn_oa he2406 he2408) nm_n))).trans he2406
  have hfr2451 : rFr [q2377, q2378] P2374 F2375 F2444 := rFr_call hsb2416 hfr2415 hfr2446 (fun b hb hn => ⟨nm_n, (nm_c (fun e => hn (e ▸ List.mem_cons_self)) (nm_c (fun e => hn (e ▸ (List.mem_cons_of_mem _ List.mem_cons_self))) nm_n))⟩)
  have bo2438 := gB_any o2438
  change G _ _ _ _ _ _ _ (.int 1 :: _) _ _ _
  refine G_widen (cs' := 1) (sl' := 7) (by omega) (by omega) ?_
  have hx2452 : f2440 p2380.toNatClampNeg = some q2399 := by show f2440 p2380.toInt.toNat = _; rw [show p2380.toInt = p2383.toInt by omega]; exact x2442.2
  refine G_pop dr_cX13_row_28 rfl ?_
  refine G_aload_n 0 dr_cX13_row_29 rfl ?_
  refine Gp_get 1 hm2410 he2450 dr_cX13_row_30 (gk_X13 D I) (Nat.le_of_ble_eq_true rfl) wr_7_31 rfl ?_
  refine G_aload_n 0 dr_cX13_row_33 rfl ?_
  refine Gp_get 2 hm2410 he2450 dr_cX13_row_34 (gk_X13 D I) (Nat.le_of_ble_eq_true rfl) wr_7_32 rfl ?_
  refine Gw_callV (As := [.int p2380]) (gV_ok D I) (cp_22_ArrayList_get l hl0 D I P2400 F2444 q2377 q2378 p2380 o2438 o2439 f2440 n2385 q2399 hm2411 hm2412 he2447 he2449 (gB_w bp2380 (by decide) (by decide)) ⟨by omega, by omega⟩ (by have qa0 : Int32.toInt 0 = 0 := (by decide); omega) (by have qa0 : Int32.toInt 0 = 0 := (by decide); omega) (by assumption) (by have qa0 : Int32.toInt 0 = 0 := (by decide); omega)) dr_cX13_row_37 ⟨wr_10_62, wr_1_18, wr_10_65, by decide, rfl, (Nat.le_of_ble_eq_true rfl), (Nat.le_of_ble_eq_true rfl)⟩ wr_10_63 wr_10_64 hm2411 he2447 rfl (show 1 + 0 ≤ 1 by first | omega | decide) (show 7 + 0 ≤ 7 by first | omega | decide) (Nat.le_of_ble_eq_true rfl) (fun r2456 w2457 dc2453 ds2454 hp2455 => ?_) (fun _ _ _ _ _ z => z.elim)
  obtain ⟨rfl, rfl, hdc, hds, ht2458⟩ := hp2455
  change G _ _ _ _ _ _ _ (.ref q2399 :: _) _ _ _
  refine G_widen (cs' := 1) (sl' := 7) (by omega) (by omega) ?_
  refine Gp_cast hm2413 he2448 rfl dr_cX13_row_40 wr_10_83 (gr_cast 1 rfl) ?_
  refine G_astore_n (L' := [(1, .ref q2399), (0, .ref q2376)]) dr_cX13_row_43 (Nat.le_of_ble_eq_true rfl) rfl ?_
  refine G_aload_n 1 dr_cX13_row_44 rfl ?_
  refine G_dup dr_cX13_row_45 rfl ?_
  refine Gp_get 2 hm2410 he2450 dr_cX13_row_46 (gk_X13 D I) (Nat.le_of_ble_eq_true rfl) wr_7_32 rfl ?_
  refine G_iconst 1 dr_cX13_row_49 (by decide +kernel) ?_
  refine G_iadd dr_cX13_row_50 (G_nam fun z2459 hz2459 => ?_)
  have ez2459 : z2459.toInt = p2380.toInt + 1 := by rw [gI_add hz2459 bp2380 (gBl (show Int32.toInt 1 = 1 by decide)) (by decide) (by decide), show Int32.toInt 1 = 1 from by decide]
  have bz2459 : gB z2459 1 1000001 := gB_add (gI_add hz2459 bp2380 (gBl (show Int32.toInt 1 = 1 by decide)) (by decide) (by decide)) bp2380 (gBl (show Int32.toInt 1 = 1 by decide)) (by decide) (by decide)
  refine Gp_put 2 hm2410 he2450 dr_cX13_row_51 (gk_X13 D I) (Nat.le_of_ble_eq_true rfl) wr_7_32 rfl rfl rfl (Nat.le_of_ble_eq_true rfl) (fun F2460 e2461 n2462 => ?_)
  have he2463 : F2460 q2377 = .inr (4, [.int o2438, .ref q2378, .int o2439]) := (n2462 q2377 (rn_oo he2447 he2450 (by decide))).trans he2447
  have he2464 : F2460 q2399 = .inr (20, [.int 0, .int 0, .int 0, .int 0, .int 0, .int 0, .int 0]) := (n2462 q2399 (fun h => hq2414 (h ▸ hmq2376))).trans he2448
  have he2465 : F2460 q2378 = .inl (I (.object "java/lang/Object"), n2385, .inr (.inr (.inr (.inr f2440)))) := (n2462 q2378 (rn_ao he2449 he2450)).trans he2449
  have he2466 : F2460 q2376 = .inr (18, [.ref qo2379, .ref q2377, .int z2459, .int p2381]) := e2461
  have hfr2467 : rFr [q2376, q2377, q2378] P2374 F2375 F2460 := rFr_put hfr2451 n2462
  refine G_aload_n 0 dr_cX13_row_54 rfl ?_
  refine G_iconst 0 dr_cX13_row_55 (by decide +kernel) ?_
  refine Gp_put 5 hm2413 he2464 dr_cX13_row_56 (gk_X15 D I) (Nat.le_of_ble_eq_true rfl) wr_9_196 rfl rfl rfl (Nat.le_of_ble_eq_true rfl) (fun F2468 e2469 n2470 => ?_)
  have he2471 : F2468 q2376 = .inr (18, [.ref qo2379, .ref q2377, .int z2459, .int p2381]) := (n2470 q2376 (fun h => hq2414 (h ▸ hmq2376))).trans he2466
  have he2472 : F2468 q2377 = .inr (4, [.int o2438, .ref q2378, .int o2439]) := (n2470 q2377 (fun h => hq2414 (h ▸ hmq2377))).trans he2463
  have he2473 : F2468 q2378 = .inl (I (.object "java/lang/Object"), n2385, .inr (.inr (.inr (.inr f2440)))) := (n2470 q2378 (fun h => hq2414 (h ▸ hmq2378))).trans he2465
  have he2474 : F2468 q2399 = .inr (20, [.int 0, .int 0, .int 0, .int 0, .int 0, .int 0, .int 0]) := e2469
  have hfr2475 : rFr [q2376, q2377, q2378] P2374 F2375 F2468 := rFr_newp hq2414 hfr2467 n2470
  refine G_aload_n 0 dr_cX13_row_59 rfl ?_
  refine G_iconst 0 dr_cX13_row_60 (by decide +kernel) ?_
  refine Gp_put 6 hm2413 he2474 dr_cX13_row_61 (gk_X15 D I) (Nat.le_of_ble_eq_true rfl) wr_9_200 rfl rfl rfl (Nat.le_of_ble_eq_true rfl) (fun F2476 e2477 n2478 => ?_)
  have he2479 : F2476 q2376 = .inr (18, [.ref qo2379, .ref q2377, .int z2459, .int p2381]) := (n2478 q2376 (fun h => hq2414 (h ▸ hmq2376))).trans he2471
  have he2480 : F2476 q2377 = .inr (4, [.int o2438, .ref q2378, .int o2439]) := (n2478 q2377 (fun h => hq2414 (h ▸ hmq2377))).trans he2472
  have he2481 : F2476 q2378 = .inl (I (.object "java/lang/Object"), n2385, .inr (.inr (.inr (.inr f2440)))) := (n2478 q2378 (fun h => hq2414 (h ▸ hmq2378))).trans he2473
  have he2482 : F2476 q2399 = .inr (20, [.int 0, .int 0, .int 0, .int 0, .int 0, .int 0, .int 0]) := e2477
  have hfr2483 : rFr [q2376, q2377, q2378] P2374 F2375 F2476 := rFr_newp hq2414 hfr2475 n2478
  refine G_aload_n 0 dr_cX13_row_64 rfl ?_
  refine G_iconst 0 dr_cX13_row_65 (by decide +kernel) ?_
  refine Gp_put 2 hm2413 he2482 dr_cX13_row_66 (gk_X15 D I) (Nat.le_of_ble_eq_true rfl) wr_9_184 rfl rfl rfl (Nat.le_of_ble_eq_true rfl) (fun F2484 e2485 n2486 => ?_)
  have he2487 : F2484 q2376 = .inr (18, [.ref qo2379, .ref q2377, .int z2459, .int p2381]) := (n2486 q2376 (fun h => hq2414 (h ▸ hmq2376))).trans he2479
  have he2488 : F2484 q2377 = .inr (4, [.int o2438, .ref q2378, .int o2439]) := (n2486 q2377 (fun h => hq2414 (h ▸ hmq2377))).trans he2480
  have he2489 : F2484 q2378 = .inl (I (.object "java/lang/Object"), n2385, .inr (.inr (.inr (.inr f2440)))) := (n2486 q2378 (fun h => hq2414 (h ▸ hmq2378))).trans he2481
  have he2490 : F2484 q2399 = .inr (20, [.int 0, .int 0, .int 0, .int 0, .int 0, .int 0, .int 0]) := e2485
  have hfr2491 : rFr [q2376, q2377, q2378] P2374 F2375 F2484 := rFr_newp hq2414 hfr2483 n2486
  refine G_aload_n 0 dr_cX13_row_69 rfl ?_
  refine G_iconst 0 dr_cX13_row_70 (by decide +kernel) ?_
  refine Gp_put 3 hm2413 he2490 dr_cX13_row_71 (gk_X15 D I) (Nat.le_of_ble_eq_true rfl) wr_9_188 rfl rfl rfl (Nat.le_of_ble_eq_true rfl) (fun F2492 e2493 n2494 => ?_)
  have he2495 : F2492 q2376 = .inr (18, [.ref qo2379, .ref q2377, .int z2459, .int p2381]) := (n2494 q2376 (fun h => hq2414 (h ▸ hmq2376))).trans he2487
  have he2496 : F2492 q2377 = .inr (4, [.int o2438, .ref q2378, .int o2439]) := (n2494 q2377 (fun h => hq2414 (h ▸ hmq2377))).trans he2488
  have he2497 : F2492 q2378 = .inl (I (.object "java/lang/Object"), n2385, .inr (.inr (.inr (.inr f2440)))) := (n2494 q2378 (fun h => hq2414 (h ▸ hmq2378))).trans he2489
  have he2498 : F2492 q2399 = .inr (20, [.int 0, .int 0, .int 0, .int 0, .int 0, .int 0, .int 0]) := e2493
  have hfr2499 : rFr [q2376, q2377, q2378] P2374 F2375 F2492 := rFr_newp hq2414 hfr2491 n2494
  refine G_aload_n 0 dr_cX13_row_74 rfl ?_
  refine G_iconst 0 dr_cX13_row_75 (by decide +kernel) ?_
  refine Gp_put 1 hm2413 he2498 dr_cX13_row_76 (gk_X15 D I) (Nat.le_of_ble_eq_true rfl) wr_9_180 rfl rfl rfl (Nat.le_of_ble_eq_true rfl) (fun F2500 e2501 n2502 => ?_)
  have he2503 : F2500 q2376 = .inr (18, [.ref qo2379, .ref q2377, .int z2459, .int p2381]) := (n2502 q2376 (fun h => hq2414 (h ▸ hmq2376))).trans he2495
  have he2504 : F2500 q2377 = .inr (4, [.int o2438, .ref q2378, .int o2439]) := (n2502 q2377 (fun h => hq2414 (h ▸ hmq2377))).trans he2496
  have he2505 : F2500 q2378 = .inl (I (.object "java/lang/Object"), n2385, .inr (.inr (.inr (.inr f2440)))) := (n2502 q2378 (fun h => hq2414 (h ▸ hmq2378))).trans he2497
  have he2506 : F2500 q2399 = .inr (20, [.int 0, .int 0, .int 0, .int 0, .int 0, .int 0, .int 0]) := e2501
  have hfr2507 : rFr [q2376, q2377, q2378] P2374 F2375 F2500 := rFr_newp hq2414 hfr2499 n2502
  refine G_aload_n 0 dr_cX13_row_79 rfl ?_
  refine G_iconst 0 dr_cX13_row_80 (by decide +kernel) ?_
  refine Gp_put 4 hm2413 he2506 dr_cX13_row_81 (gk_X15 D I) (Nat.le_of_ble_eq_true rfl) wr_9_192 rfl rfl rfl (Nat.le_of_ble_eq_true rfl) (fun F2508 e2509 n2510 => ?_)
  have he2511 : F2508 q2376 = .inr (18, [.ref qo2379, .ref q2377, .int z2459, .int p2381]) := (n2510 q2376 (fun h => hq2414 (h ▸ hmq2376))).trans he2503
  have he2512 : F2508 q2377 = .inr (4, [.int o2438, .ref q2378, .int o2439]) := (n2510 q2377 (fun h => hq2414 (h ▸ hmq2377))).trans he2504
  have he2513 : F2508 q2378 = .inl (I (.object "java/lang/Object"), n2385, .inr (.inr (.inr (.inr f2440)))) := (n2510 q2378 (fun h => hq2414 (h ▸ hmq2378))).trans he2505
  have he2514 : F2508 q2399 = .inr (20, [.int 0, .int 0, .int 0, .int 0, .int 0, .int 0, .int 0]) := e2509
  have hfr2515 : rFr [q2376, q2377, q2378] P2374 F2375 F2508 := rFr_newp hq2414 hfr2507 n2510
  refine G_aload_n 0 dr_cX13_row_84 rfl ?_
  exact G_aretA (FieldType.object "SpillForgeModel$Row") dr_cX13_row_85 rfl (by first | exact Or.inl ⟨_, rfl⟩ | exact Or.inr ⟨_, rfl⟩) (Or.inr ⟨_, rfl⟩) (Nat.le_of_ble_eq_true rfl) (Nat.le_of_ble_eq_true rfl) ⟨P2400, F2508, z2459, q2399, o2438, o2439, f2440, rfl, rfl, hsb2416, hfr2515, he2511, he2512, he2514, he2513, hm2413, hq2414, (Nat.le_of_ble_eq_true rfl), (Nat.le_of_ble_eq_true rfl), bz2459, bo2439, (by have qa0 : Int32.toInt 0 = 0 := (by decide); omega), (by have qa0 : Int32.toInt 0 = 0 := (by decide); omega), (by assumption), (by assumption)⟩
abbrev ky_2541_Code_row : gKey := (cX13_row, 2, "SpillForgeModel$Code", (some (FieldType.object "SpillForgeModel$Row")), [], "row", fun _ _ => True)
def pp_2541_Code_row (D : va_G) (I : FieldType → ClassId) (P2523 : List Nat) (F2524 : Nat → va_E) (q2525 : Nat) (q2526 : Nat) (q2527 : Nat) (qo2528 : Nat) (p2529 : Int32) (p2530 : Int32) (p2531 : Int32) (p2532 : Int32) (f2533 : Nat → Option Nat) (n2534 : Nat) : Option Value → va_W → Nat → Nat → Prop := fun r w dc ds => ∃ (P2683 : List Nat) (F2684 : Nat → va_E) (o2676 : Int32) (q2677 : Nat) (o2678 : Int32) (o2679 : Int32) (q2680 : Nat) (n2681 : Nat) (f2682 : Nat → Option Nat), r = some (.ref q2677) ∧ w = va_pl P2683 F2684 ∧ rSub P2523 P2683 ∧ rFr [q2525, q2526] P2523 F2524 F2684 ∧ F2684 q2525 = .inr (18, [.ref qo2528, .ref q2526, .int o2676, .int p2530]) ∧ F2684 q2677 = .inr (20, [.int 0, .int 0, .int 0, .int 0, .int 0, .int 0, .int 0]) ∧ F2684 q2526 = .inr (4, [.int o2678, .ref q2680, .int o2679]) ∧ F2684 q2680 = .inl (I (.object "java/lang/Object"), n2681, .inr (.inr (.inr (.inr f2682)))) ∧ q2677 ∈ P2683 ∧ q2677 ∉ P2523 ∧ q2680 ∈ P2683 ∧ q2680 ∉ P2523 ∧ dc ≤ 2 ∧ ds ≤ n2534 + n2534 / 2 + 1 + 7 ∧ gB o2676 1 1000001 ∧ gB o2679 1 16777217 ∧ o2676.toInt = p2529.toInt + 1 ∧ o2679.toInt = p2532.toInt + 1 ∧ ((∀ j : Nat, (j : Int) < p2532.toInt → f2682 j = f2533 j) ∧ f2682 p2532.toInt.toNat = some q2677) ∧ rSrcX f2682 f2533 q2677 ∧ ((n2681 : Int) ≤ (n2534 : Int) + (n2534 : Int) / 2 + 1 ∧ (n2534 : Int) + 1 ≤ (n2681 : Int) ∧ (n2534 : Int) + (n2534 : Int) / 2 ≤ (n2681 : Int))
set_option maxRecDepth 100000 in
set_option maxHeartbeats 4000000 in
theorem cp_2541_Code_row (l : Launch) (hl0 : l.stackTraces = false) (D : va_G) (I : FieldType → ClassId) (P2523 : List Nat) (F2524 : Nat → va_E) (q2525 : Nat) (q2526 : Nat) (q2527 : Nat) (qo2528 : Nat) (p2529 : Int32) (p2530 : Int32) (p2531 : Int32) (p2532 : Int32) (f2533 : Nat → Option Nat) (n2534 : Nat) (hmq2525 : q2525 ∈ P2523) (hmq2526 : q2526 ∈ P2523) (hmq2527 : q2527 ∈ P2523) (heq2525 : F2524 q2525 = .inr (18, [.ref qo2528, .ref q2526, .int p2529, .int p2530])) (heq2526 : F2524 q2526 = .inr (4, [.int p2531, .ref q2527, .int p2532])) (heq2527 : F2524 q2527 = .inl (I (.object "java/lang/Object"), n2534, .inr (.inr (.inr (.inr f2533))))) (bp2529 : gB p2529 0 1000000) (bp2530 : gB p2530 0 1000000) (bp2532 : gB p2532 0 1000000) (x2535 : p2529.toInt = p2532.toInt) (x2536 : 0 < (n2534 : Int)) (x2537 : (n2534 : Int) ≤ 1000000) (x2538 : p2532.toInt = (n2534 : Int)) (x2539 : rEl P2523 F2524 f2533) (x2540 : ((n2534 : Int) ≤ 16777216)) : CtA (gV D I) l yX13_row cX13_row 2 (some (FieldType.object "SpillForgeModel$Row")) 7 149 2 (n2534 + n2534 / 2 + 1 + 7) [.ref q2525] (va_pl P2523 F2524) (pp_2541_Code_row D I P2523 F2524 q2525 q2526 q2527 qo2528 p2529 p2530 p2531 p2532 f2533 n2534) gNA := by
  refine CtA_of hl0 (by decide) (Nat.le_of_ble_eq_true rfl) ?_
  have bp2531 := gB_any p2531
  refine G_aload_n 0 dr_cX13_row_0 rfl ?_
  refine Gp_get 2 hmq2525 heq2525 dr_cX13_row_1 (gk_X13 D I) (Nat.le_of_ble_eq_true rfl) wr_7_32 rfl ?_
  refine G_aload_n 0 dr_cX13_row_4 rfl ?_
  refine Gp_get 1 hmq2525 heq2525 dr_cX13_row_5 (gk_X13 D I) (Nat.le_of_ble_eq_true rfl) wr_7_31 rfl ?_
  refine Gw_callV (As := []) (gV_ok D I) (cp_2299_ArrayList_size l hl0 D I P2523 F2524 q2526 q2527 p2531 p2532 f2533 n2534 hmq2526 hmq2527 heq2526 heq2527 (gB_w bp2532 (by decide) (by decide)) (by omega)) dr_cX13_row_8 ⟨wr_9_157, wr_1_18, wr_9_160, by decide, rfl, (Nat.le_of_ble_eq_true rfl), (Nat.le_of_ble_eq_true rfl)⟩ wr_9_158 wr_9_159 hmq2526 heq2526 rfl (show 0 + 0 ≤ 2 by first | omega | decide) (show 0 + 0 ≤ (n2534 + n2534 / 2 + 1 + 7) by first | omega | decide) (Nat.le_of_ble_eq_true rfl) (fun r2545 w2546 dc2542 ds2543 hp2544 => ?_) (fun _ _ _ _ _ z => z.elim)
  obtain ⟨rfl, rfl, hdc, hds⟩ := hp2544
  change G _ _ _ _ _ _ _ (.int p2532 :: _) _ _ _
  refine G_widen (cs' := 0) (sl' := 0) (by omega) (by omega) ?_
  refine G_icmp_ne 29 dr_cX13_row_11 (by decide +kernel) (fun hc => absurd (show False by have := gC_ne hc; omega) not_false) (fun hc2547 => ?_)
  have r2549 : p2529.toInt = p2532.toInt := gC_eq hc2547
  refine G_aload_n 0 dr_cX13_row_14 rfl ?_
  refine Gp_get 1 hmq2525 heq2525 dr_cX13_row_15 (gk_X13 D I) (Nat.le_of_ble_eq_true rfl) wr_7_31 rfl ?_
  refine G_new [.int 0, .int 0, .int 0, .int 0, .int 0, .int 0, .int 0] dr_cX13_row_18 (gk_X15 D I) wr_10_83 wr_9_170 wr_1_39 (gfs_X15) (show 0 + 1 ≤ 2 by first | omega | decide) (show 0 + 7 ≤ (n2534 + n2534 / 2 + 1 + 7) by first | omega | decide) (fun q2550 => Gp_in (fun P2551 F2552 hq2553 hP2554 e2555 n2556 => ?_))
  refine G_widen (cs' := 1) (sl' := 7) (by omega) (by omega) ?_
  have he2557 : F2552 q2525 = .inr (18, [.ref qo2528, .ref q2526, .int p2529, .int p2530]) := (n2556 q2525 (fun h => hq2553 (h ▸ hmq2525))).trans heq2525
  have he2558 : F2552 q2526 = .inr (4, [.int p2531, .ref q2527, .int p2532]) := (n2556 q2526 (fun h => hq2553 (h ▸ hmq2526))).trans heq2526
  have he2559 : F2552 q2527 = .inl (I (.object "java/lang/Object"), n2534, .inr (.inr (.inr (.inr f2533)))) := (n2556 q2527 (fun h => hq2553 (h ▸ hmq2527))).trans heq2527
  have he2560 : F2552 q2550 = .inr (20, [.int 0, .int 0, .int 0, .int 0, .int 0, .int 0, .int 0]) := e2555
  have hm2561 : q2525 ∈ P2551 := (hP2554 q2525).mpr (Or.inl hmq2525)
  have hm2562 : q2526 ∈ P2551 := (hP2554 q2526).mpr (Or.inl hmq2526)
  have hm2563 : q2527 ∈ P2551 := (hP2554 q2527).mpr (Or.inl hmq2527)
  have hm2564 : q2550 ∈ P2551 := (hP2554 q2550).mpr (Or.inr rfl)
  have hq2565 : q2550 ∉ P2523 := fun z => hq2553 ((rSub_rf (P := P2523)) q2550 z)
  have hfr2566 : rFr [] P2523 F2524 F2552 := rFr_new (rSub_rf (P := P2523)) hq2553 (rFr_rf (W := []) (P := P2523) (F := F2524)) n2556
  have hsb2567 : rSub P2523 P2551 := rSub_new (rSub_rf (P := P2523)) hP2554
  refine G_dup dr_cX13_row_21 rfl ?_
  refine Gw_callIN (As := []) (gV_ok D I) (cp_2427_Row_init l hl0 D I P2551 F2552 q2550 0 0 0 0 0 0 0 hm2564 he2560 (gB_w (gBl (show Int32.toInt 0 = 0 by decide)) (by decide) (by decide)) (gB_w (gBl (show Int32.toInt 0 = 0 by decide)) (by decide) (by decide)) (gB_w (gBl (show Int32.toInt 0 = 0 by decide)) (by decide) (by decide)) (gB_w (gBl (show Int32.toInt 0 = 0 by decide)) (by decide) (by decide)) (gB_w (gBl (show Int32.toInt 0 = 0 by decide)) (by decide) (by decide))) dr_cX13_row_22 ⟨(fun _ _ _ h => gn_w 80 rfl h), wr_1_39, wr_9_173, by decide, rfl, (Nat.le_of_ble_eq_true rfl), (Nat.le_of_ble_eq_true rfl)⟩ wr_9_172 rfl (show 1 + 0 ≤ 2 by first | omega | decide) (show 7 + 0 ≤ (n2534 + n2534 / 2 + 1 + 7) by first | omega | decide) (Nat.le_of_ble_eq_true rfl) (fun r2571 w2572 dc2568 ds2569 hp2570 => ?_)
  obtain ⟨rfl, rfl, hdc, hds⟩ := hp2570
  change G _ _ _ _ _ _ _ _ _ _ _
  refine G_widen (cs' := 1) (sl' := 7) (by omega) (by omega) ?_
  refine Gw_callV (As := [.ref q2550]) (gV_ok D I) (cp_276_ArrayList_add l hl0 D I P2551 F2552 q2526 q2550 q2527 p2531 p2532 0 0 0 0 0 0 0 f2533 n2534 hm2562 hm2564 hm2563 he2558 he2560 he2559 (gB_w bp2532 (by decide) (by decide)) (gB_w (gBl (show Int32.toInt 0 = 0 by decide)) (by decide) (by decide)) (gB_w (gBl (show Int32.toInt 0 = 0 by decide)) (by decide) (by decide)) (gB_w (gBl (show Int32.toInt 0 = 0 by decide)) (by decide) (by decide)) (gB_w (gBl (show Int32.toInt 0 = 0 by decide)) (by decide) (by decide)) (gB_w (gBl (show Int32.toInt 0 = 0 by decide)) (by decide) (by decide)) (by have qa0 : Int32.toInt 0 = 0 := (by decide); omega) (by have qa0 : Int32.toInt 0 = 0 := (by decide); omega) (by have qa0 : Int32.toInt 0 = 0 := (by decide); omega) (rEl_frG (rEl_src x2539 rSrc_rf) hsb2567 hfr2566 rNg_n) (by have qa0 : Int32.toInt 0 = 0 := (by decide); omega)) dr_cX13_row_25 ⟨wr_10_3, wr_1_18, wr_10_6, by decide, rfl, (Nat.le_of_ble_eq_true rfl), (Nat.le_of_ble_eq_true rfl)⟩ wr_10_4 wr_10_5 hm2562 he2558 rfl (show 1 + 1 ≤ 2 by first | omega | decide) (show 7 + (n2534 + n2534 / 2 + 1) ≤ (n2534 + n2534 / 2 + 1 + 7) by first | omega | decide) (Nat.le_of_ble_eq_true rfl) (fun r2576 w2577 dc2573 ds2574 hp2575 => ?_) (fun _ _ _ _ _ z => z.elim)
  obtain ⟨P2587, F2588, o2578, o2579, q2580, n2581, f2582, rfl, rfl, hsb2589, hfr2590, he2591, he2592, he2593, hm2594, hq2595, hdc, hds, bo2579, x2583, x2584, x2585, x2586⟩ := hp2575
  have hm2596 : q2525 ∈ P2587 := hsb2589 q2525 hm2561
  have hm2597 : q2526 ∈ P2587 := hsb2589 q2526 hm2562
  have hm2598 : q2527 ∈ P2587 := hsb2589 q2527 hm2563
  have hm2599 : q2550 ∈ P2587 := hsb2589 q2550 hm2564
  have hq2600 : q2580 ∉ P2523 := fun z => hq2595 (hsb2567 q2580 z)
  have hsb2601 : rSub P2523 P2587 := rSub_tr hsb2567 hsb2589
  have he2602 : F2588 q2525 = .inr (18, [.ref qo2528, .ref q2526, .int p2529, .int p2530]) := (hfr2590 q2525 hm2561 (nm_c (rn_oo he2557 he2558 (by decide)) nm_n)).trans he2557
  have he2603 : F2588 q2527 = .inl (I (.object "java/lang/Object"), n2534, .inr (.inr (.inr (.inr f2533)))) := (hfr2590 q2527 hm2563 (nm_c (rn_ao he2559 he2558) nm_n)).trans he2559
  have hfr2604 : rFr [q2526] P2523 F2524 F2588 := rFr_call hsb2567 hfr2566 hfr2590 (fun b hb hn => ⟨nm_n, (nm_c (fun e => hn (e ▸ List.mem_cons_self)) nm_n)⟩)
  have bo2578 := gB_any o2578
  change G _ _ _ _ _ _ _ (.int 1 :: _) _ _ _
  refine G_widen (cs' := 2) (sl' := 7 + (n2534 + n2534 / 2 + 1)) (by omega) (by omega) ?_
  have hx2605 : f2582 p2529.toNatClampNeg = some q2550 := by show f2582 p2529.toInt.toNat = _; rw [show p2529.toInt = p2532.toInt by omega]; exact x2584.2
  refine G_pop dr_cX13_row_28 rfl ?_
  refine G_aload_n 0 dr_cX13_row_29 rfl ?_
  refine Gp_get 1 hm2596 he2602 dr_cX13_row_30 (gk_X13 D I) (Nat.le_of_ble_eq_true rfl) wr_7_31 rfl ?_
  refine G_aload_n 0 dr_cX13_row_33 rfl ?_
  refine Gp_get 2 hm2596 he2602 dr_cX13_row_34 (gk_X13 D I) (Nat.le_of_ble_eq_true rfl) wr_7_32 rfl ?_
  refine Gw_callV (As := [.int p2529]) (gV_ok D I) (cp_22_ArrayList_get l hl0 D I P2587 F2588 q2526 q2580 p2529 o2578 o2579 f2582 n2581 q2550 hm2597 hm2594 he2592 he2593 (gB_w bp2529 (by decide) (by decide)) ⟨by omega, by omega⟩ (by have qa0 : Int32.toInt 0 = 0 := (by decide); omega) (by have qa0 : Int32.toInt 0 = 0 := (by decide); omega) (by assumption) (by have qa0 : Int32.toInt 0 = 0 := (by decide); omega)) dr_cX13_row_37 ⟨wr_10_62, wr_1_18, wr_10_65, by decide, rfl, (Nat.le_of_ble_eq_true rfl), (Nat.le_of_ble_eq_true rfl)⟩ wr_10_63 wr_10_64 hm2597 he2592 rfl (show 2 + 0 ≤ 2 by first | omega | decide) (show 7 + (n2534 + n2534 / 2 + 1) + 0 ≤ (n2534 + n2534 / 2 + 1 + 7) by first | omega | decide) (Nat.le_of_ble_eq_true rfl) (fun r2609 w2610 dc2606 ds2607 hp2608 => ?_) (fun _ _ _ _ _ z => z.elim)
  obtain ⟨rfl, rfl, hdc, hds, ht2611⟩ := hp2608
  change G _ _ _ _ _ _ _ (.ref q2550 :: _) _ _ _
  refine G_widen (cs' := 2) (sl' := 7 + (n2534 + n2534 / 2 + 1) + 0) (by omega) (by omega) ?_
  refine Gp_cast hm2599 he2591 rfl dr_cX13_row_40 wr_10_83 (gr_cast 1 rfl) ?_
  refine G_astore_n (L' := [(1, .ref q2550), (0, .ref q2525)]) dr_cX13_row_43 (Nat.le_of_ble_eq_true rfl) rfl ?_
  refine G_aload_n 1 dr_cX13_row_44 rfl ?_
  refine G_dup dr_cX13_row_45 rfl ?_
  refine Gp_get 2 hm2596 he2602 dr_cX13_row_46 (gk_X13 D I) (Nat.le_of_ble_eq_true rfl) wr_7_32 rfl ?_
  refine G_iconst 1 dr_cX13_row_49 (by decide +kernel) ?_
  refine G_iadd dr_cX13_row_50 (G_nam fun z2612 hz2612 => ?_)
  have ez2612 : z2612.toInt = p2529.toInt + 1 := by rw [gI_add hz2612 bp2529 (gBl (show Int32.toInt 1 = 1 by decide)) (by decide) (by decide), show Int32.toInt 1 = 1 from by decide]
  have bz2612 : gB z2612 1 1000001 := gB_add (gI_add hz2612 bp2529 (gBl (show Int32.toInt 1 = 1 by decide)) (by decide) (by decide)) bp2529 (gBl (show Int32.toInt 1 = 1 by decide)) (by decide) (by decide)
  refine Gp_put 2 hm2596 he2602 dr_cX13_row_51 (gk_X13 D I) (Nat.le_of_ble_eq_true rfl) wr_7_32 rfl rfl rfl (Nat.le_of_ble_eq_true rfl) (fun F2613 e2614 n2615 => ?_)
  have he2616 : F2613 q2527 = .inl (I (.object "java/lang/Object"), n2534, .inr (.inr (.inr (.inr f2533)))) := (n2615 q2527 (rn_ao he2603 he2602)).trans he2603
  have he2617 : F2613 q2550 = .inr (20, [.int 0, .int 0, .int 0, .int 0, .int 0, .int 0, .int 0]) := (n2615 q2550 (fun h => hq2565 (h ▸ hmq2525))).trans he2591
  have he2618 : F2613 q2526 = .inr (4, [.int o2578, .ref q2580, .int o2579]) := (n2615 q2526 (rn_oo he2592 he2602 (by decide))).trans he2592
  have he2619 : F2613 q2580 = .inl (I (.object "java/lang/Object"), n2581, .inr (.inr (.inr (.inr f2582)))) := (n2615 q2580 (fun h => hq2600 (h ▸ hmq2525))).trans he2593
  have he2620 : F2613 q2525 = .inr (18, [.ref qo2528, .ref q2526, .int z2612, .int p2530]) := e2614
  have hfr2621 : rFr [q2525, q2526] P2523 F2524 F2613 := rFr_put hfr2604 n2615
  refine G_aload_n 0 dr_cX13_row_54 rfl ?_
  refine G_iconst 0 dr_cX13_row_55 (by decide +kernel) ?_
  refine Gp_put 5 hm2599 he2617 dr_cX13_row_56 (gk_X15 D I) (Nat.le_of_ble_eq_true rfl) wr_9_196 rfl rfl rfl (Nat.le_of_ble_eq_true rfl) (fun F2622 e2623 n2624 => ?_)
  have he2625 : F2622 q2525 = .inr (18, [.ref qo2528, .ref q2526, .int z2612, .int p2530]) := (n2624 q2525 (fun h => hq2565 (h ▸ hmq2525))).trans he2620
  have he2626 : F2622 q2527 = .inl (I (.object "java/lang/Object"), n2534, .inr (.inr (.inr (.inr f2533)))) := (n2624 q2527 (fun h => hq2565 (h ▸ hmq2527))).trans he2616
  have he2627 : F2622 q2526 = .inr (4, [.int o2578, .ref q2580, .int o2579]) := (n2624 q2526 (fun h => hq2565 (h ▸ hmq2526))).trans he2618
  have he2628 : F2622 q2580 = .inl (I (.object "java/lang/Object"), n2581, .inr (.inr (.inr (.inr f2582)))) := (n2624 q2580 (rn_ao he2619 he2617)).trans he2619
  have he2629 : F2622 q2550 = .inr (20, [.int 0, .int 0, .int 0, .int 0, .int 0, .int 0, .int 0]) := e2623
  have hfr2630 : rFr [q2525, q2526] P2523 F2524 F2622 := rFr_newp hq2565 hfr2621 n2624
  refine G_aload_n 0 dr_cX13_row_59 rfl ?_
  refine G_iconst 0 dr_cX13_row_60 (by decide +kernel) ?_
  refine Gp_put 6 hm2599 he2629 dr_cX13_row_61 (gk_X15 D I) (Nat.le_of_ble_eq_true rfl) wr_9_200 rfl rfl rfl (Nat.le_of_ble_eq_true rfl) (fun F2631 e2632 n2633 => ?_)
  have he2634 : F2631 q2525 = .inr (18, [.ref qo2528, .ref q2526, .int z2612, .int p2530]) := (n2633 q2525 (fun h => hq2565 (h ▸ hmq2525))).trans he2625
  have he2635 : F2631 q2527 = .inl (I (.object "java/lang/Object"), n2534, .inr (.inr (.inr (.inr f2533)))) := (n2633 q2527 (fun h => hq2565 (h ▸ hmq2527))).trans he2626
  have he2636 : F2631 q2526 = .inr (4, [.int o2578, .ref q2580, .int o2579]) := (n2633 q2526 (fun h => hq2565 (h ▸ hmq2526))).trans he2627
  have he2637 : F2631 q2580 = .inl (I (.object "java/lang/Object"), n2581, .inr (.inr (.inr (.inr f2582)))) := (n2633 q2580 (rn_ao he2628 he2629)).trans he2628
  have he2638 : F2631 q2550 = .inr (20, [.int 0, .int 0, .int 0, .int 0, .int 0, .int 0, .int 0]) := e2632
  have hfr2639 : rFr [q2525, q2526] P2523 F2524 F2631 := rFr_newp hq2565 hfr2630 n2633
  refine G_aload_n 0 dr_cX13_row_64 rfl ?_
  refine G_iconst 0 dr_cX13_row_65 (by decide +kernel) ?_
  refine Gp_put 2 hm2599 he2638 dr_cX13_row_66 (gk_X15 D I) (Nat.le_of_ble_eq_true rfl) wr_9_184 rfl rfl rfl (Nat.le_of_ble_eq_true rfl) (fun F2640 e2641 n2642 => ?_)
  have he2643 : F2640 q2525 = .inr (18, [.ref qo2528, .ref q2526, .int z2612, .int p2530]) := (n2642 q2525 (fun h => hq2565 (h ▸ hmq2525))).trans he2634
  have he2644 : F2640 q2527 = .inl (I (.object "java/lang/Object"), n2534, .inr (.inr (.inr (.inr f2533)))) := (n2642 q2527 (fun h => hq2565 (h ▸ hmq2527))).trans he2635
  have he2645 : F2640 q2526 = .inr (4, [.int o2578, .ref q2580, .int o2579]) := (n2642 q2526 (fun h => hq2565 (h ▸ hmq2526))).trans he2636
  have he2646 : F2640 q2580 = .inl (I (.object "java/lang/Object"), n2581, .inr (.inr (.inr (.inr f2582)))) := (n2642 q2580 (rn_ao he2637 he2638)).trans he2637
  have he2647 : F2640 q2550 = .inr (20, [.int 0, .int 0, .int 0, .int 0, .int 0, .int 0, .int 0]) := e2641
  have hfr2648 : rFr [q2525, q2526] P2523 F2524 F2640 := rFr_newp hq2565 hfr2639 n2642
  refine G_aload_n 0 dr_cX13_row_69 rfl ?_
  refine G_iconst 0 dr_cX13_row_70 (by decide +kernel) ?_
  refine Gp_put 3 hm2599 he2647 dr_cX13_row_71 (gk_X15 D I) (Nat.le_of_ble_eq_true rfl) wr_9_188 rfl rfl rfl (Nat.le_of_ble_eq_true rfl) (fun F2649 e2650 n2651 => ?_)
  have he2652 : F2649 q2525 = .inr (18, [.ref qo2528, .ref q2526, .int z2612, .int p2530]) := (n2651 q2525 (fun h => hq2565 (h ▸ hmq2525))).trans he2643
  have he2653 : F2649 q2527 = .inl (I (.object "java/lang/Object"), n2534, .inr (.inr (.inr (.inr f2533)))) := (n2651 q2527 (fun h => hq2565 (h ▸ hmq2527))).trans he2644
  have he2654 : F2649 q2526 = .inr (4, [.int o2578, .ref q2580, .int o2579]) := (n2651 q2526 (fun h => hq2565 (h ▸ hmq2526))).trans he2645
  have he2655 : F2649 q2580 = .inl (I (.object "java/lang/Object"), n2581, .inr (.inr (.inr (.inr f2582)))) := (n2651 q2580 (rn_ao he2646 he2647)).trans he2646
  have he2656 : F2649 q2550 = .inr (20, [.int 0, .int 0, .int 0, .int 0, .int 0, .int 0, .int 0]) := e2650
  have hfr2657 : rFr [q2525, q2526] P2523 F2524 F2649 := rFr_newp hq2565 hfr2648 n2651
  refine G_aload_n 0 dr_cX13_row_74 rfl ?_
  refine G_iconst 0 dr_cX13_row_75 (by decide +kernel) ?_
  refine Gp_put 1 hm2599 he2656 dr_cX13_row_76 (gk_X15 D I) (Nat.le_of_ble_eq_true rfl) wr_9_180 rfl rfl rfl (Nat.le_of_ble_eq_true rfl) (fun F2658 e2659 n2660 => ?_)
  have he2661 : F2658 q2525 = .inr (18, [.ref qo2528, .ref q2526, .int z2612, .int p2530]) := (n2660 q2525 (fun h => hq2565 (h ▸ hmq2525))).trans he2652
  have he2662 : F2658 q2527 = .inl (I (.object "java/lang/Object"), n2534, .inr (.inr (.inr (.inr f2533)))) := (n2660 q2527 (fun h => hq2565 (h ▸ hmq2527))).trans he2653
  have he2663 : F2658 q2526 = .inr (4, [.int o2578, .ref q2580, .int o2579]) := (n2660 q2526 (fun h => hq2565 (h ▸ hmq2526))).trans he2654
  have he2664 : F2658 q2580 = .inl (I (.object "java/lang/Object"), n2581, .inr (.inr (.inr (.inr f2582)))) := (n2660 q2580 (rn_ao he2655 he2656)).trans he2655
  have he2665 : F2658 q2550 = .inr (20, [.int 0, .int 0, .int 0, .int 0, .int 0, .int 0, .int 0]) := e2659
  have hfr2666 : rFr [q2525, q2526] P2523 F2524 F2658 := rFr_newp hq2565 hfr2657 n2660
  refine G_aload_n 0 dr_cX13_row_79 rfl ?_
  refine G_iconst 0 dr_cX13_row_80 (by decide +kernel) ?_
  refine Gp_put 4 hm2599 he2665 dr_cX13_row_81 (gk_X15 D I) (Nat.le_of_ble_eq_true rfl) wr_9_192 rfl rfl rfl (Nat.le_of_ble_eq_true rfl) (fun F2667 e2668 n2669 => ?_)
  have he2670 : F2667 q2525 = .inr (18, [.ref qo2528, .ref q2526, .int z2612, .int p2530]) := (n2669 q2525 (fun h => hq2565 (h ▸ hmq2525))).trans he2661
  have he2671 : F2667 q2527 = .inl (I (.object "java/lang/Object"), n2534, .inr (.inr (.inr (.inr f2533)))) := (n2669 q2527 (fun h => hq2565 (h ▸ hmq2527))).trans he2662
  have he2672 : F2667 q2526 = .inr (4, [.int o2578, .ref q2580, .int o2579]) := (n2669 q2526 (fun h => hq2565 (h ▸ hmq2526))).trans he2663
  have he2673 : F2667 q2580 = .inl (I (.object "java/lang/Object"), n2581, .inr (.inr (.inr (.inr f2582)))) := (n2669 q2580 (rn_ao he2664 he2665)).trans he2664
  have he2674 : F2667 q2550 = .inr (20, [.int 0, .int 0, .int 0, .int 0, .int 0, .int 0, .int 0]) := e2668
  have hfr2675 : rFr [q2525, q2526] P2523 F2524 F2667 := rFr_newp hq2565 hfr2666 n2669
  refine G_aload_n 0 dr_cX13_row_84 rfl ?_
  exact G_aretA (FieldType.object "SpillForgeModel$Row") dr_cX13_row_85 rfl (by first | exact Or.inl ⟨_, rfl⟩ | exact Or.inr ⟨_, rfl⟩) (Or.inr ⟨_, rfl⟩) (Nat.le_of_ble_eq_true rfl) (show 7 + (n2534 + n2534 / 2 + 1) + 0 ≤ (n2534 + n2534 / 2 + 1 + 7) by omega) ⟨P2587, F2667, z2612, q2550, o2578, o2579, q2580, n2581, f2582, rfl, rfl, hsb2601, hfr2675, he2670, he2674, he2672, he2673, hm2599, hq2565, hm2594, hq2600, (Nat.le_of_ble_eq_true rfl), (by omega), bz2612, bo2579, (by have qa0 : Int32.toInt 0 = 0 := (by decide); omega), (by have qa0 : Int32.toInt 0 = 0 := (by decide); omega), (by assumption), (by assumption), (by have qa0 : Int32.toInt 0 = 0 := (by decide); omega)⟩
end
section
theorem dr_cX13_block_0 : decode cX13_block 0 = .ok (.aload_n 0, 1) := by decide +kernel
theorem dr_cX13_block_1 : decode cX13_block 1 = .ok (.getfield 23, 3) := by decide +kernel
theorem wr_7_33 : (Jvm.Cond.fieldLink "SpillForgeModel$Code" (23 : Nat) "SpillForgeModel$Code" "made" "I") ∈ gw := gw_7 33 rfl rfl
theorem dr_cX13_block_4 : decode cX13_block 4 = .ok (.aload_n 0, 1) := by decide +kernel
theorem dr_cX13_block_5 : decode cX13_block 5 = .ok (.getfield 10, 3) := by decide +kernel
theorem wr_7_30 : (Jvm.Cond.fieldLink "SpillForgeModel$Code" (10 : Nat) "SpillForgeModel$Code" "blocks" "Ljava/util/ArrayList;") ∈ gw := gw_7 30 rfl rfl
theorem dr_cX13_block_8 : decode cX13_block 8 = .ok (.invokevirtual 26, 3) := by decide +kernel
theorem dr_cX13_block_11 : decode cX13_block 11 = .ok (.if_icmp .ne 18, 3) := by decide +kernel
theorem dr_cX13_block_29 : decode cX13_block 29 = .ok (.aload_n 0, 1) := by decide +kernel
theorem dr_cX13_block_30 : decode cX13_block 30 = .ok (.getfield 10, 3) := by decide +kernel
theorem dr_cX13_block_33 : decode cX13_block 33 = .ok (.aload_n 0, 1) := by decide +kernel
theorem dr_cX13_block_34 : decode cX13_block 34 = .ok (.getfield 23, 3) := by decide +kernel
theorem dr_cX13_block_37 : decode cX13_block 37 = .ok (.invokevirtual 37, 3) := by decide +kernel
theorem dr_cX13_block_40 : decode cX13_block 40 = .ok (.checkcast 30, 3) := by decide +kernel
theorem wr_9_161 : (Jvm.Cond.classLink "SpillForgeModel$Code" (30 : Nat) "SpillForgeModel$Block") ∈ gw := gw_9 161 rfl rfl
theorem dr_cX13_block_43 : decode cX13_block 43 = .ok (.astore_n 1, 1) := by decide +kernel
theorem dr_cX13_block_44 : decode cX13_block 44 = .ok (.aload_n 0, 1) := by decide +kernel
theorem dr_cX13_block_45 : decode cX13_block 45 = .ok (.dup, 1) := by decide +kernel
theorem dr_cX13_block_46 : decode cX13_block 46 = .ok (.getfield 23, 3) := by decide +kernel
theorem dr_cX13_block_49 : decode cX13_block 49 = .ok (.iconst 1, 1) := by decide +kernel
theorem dr_cX13_block_50 : decode cX13_block 50 = .ok (.iadd, 1) := by decide +kernel
theorem dr_cX13_block_51 : decode cX13_block 51 = .ok (.putfield 23, 3) := by decide +kernel
theorem dr_cX13_block_54 : decode cX13_block 54 = .ok (.aload_n 1, 1) := by decide +kernel
theorem dr_cX13_block_55 : decode cX13_block 55 = .ok (.getfield 41, 3) := by decide +kernel
theorem wr_9_219 : (Jvm.Cond.fieldLink "SpillForgeModel$Code" (41 : Nat) "SpillForgeModel$Block" "rows" "Ljava/util/ArrayList;") ∈ gw := gw_9 219 rfl rfl
theorem dr_cX13_block_58 : decode cX13_block 58 = .ok (.invokevirtual 42, 3) := by decide +kernel
theorem wr_10_74 : (Jvm.Cond.methodLink "SpillForgeModel$Code" (42 : Nat) ({ cls := "java/util/ArrayList", name := "clear", desc := "()V" } : Jvm.MethodName)) ∈ gw := gw_10 74 rfl rfl
theorem wr_10_77 : (Jvm.Cond.code ({ cls := "java/util/ArrayList", name := "clear", desc := "()V" } : Jvm.MethodName) prog_43_method_40_code (4 : Nat) (Option.none : Option Jvm.ClassFile.FieldType)) ∈ gw := gw_10 77 rfl rfl
theorem wr_10_75 : (Jvm.Cond.instanceMethod ({ cls := "java/util/ArrayList", name := "clear", desc := "()V" } : Jvm.MethodName)) ∈ gw := gw_10 75 rfl rfl
theorem wr_10_76 : (Jvm.Cond.selects "java/util/ArrayList" ({ cls := "java/util/ArrayList", name := "clear", desc := "()V" } : Jvm.MethodName) ({ cls := "java/util/ArrayList", name := "clear", desc := "()V" } : Jvm.MethodName)) ∈ gw := gw_10 76 rfl rfl
theorem dr_cX13_block_61 : decode cX13_block 61 = .ok (.aload_n 1, 1) := by decide +kernel
theorem dr_cX13_block_62 : decode cX13_block 62 = .ok (.areturn, 1) := by decide +kernel
theorem dr_cX12_init_0 : decode cX12_init 0 = .ok (.aload_n 0, 1) := by decide +kernel
theorem dr_cX12_init_1 : decode cX12_init 1 = .ok (.invokespecial 3, 3) := by decide +kernel
theorem wr_9_166 : (Jvm.Cond.methodLink "SpillForgeModel$Block" (3 : Nat) ({ cls := "java/lang/Object", name := "<init>", desc := "()V" } : Jvm.MethodName)) ∈ gw := gw_9 166 rfl rfl
theorem dr_cX12_init_4 : decode cX12_init 4 = .ok (.aload_n 0, 1) := by decide +kernel
theorem dr_cX12_init_5 : decode cX12_init 5 = .ok (.new 9, 3) := by decide +kernel
theorem wr_9_167 : (Jvm.Cond.classLink "SpillForgeModel$Block" (9 : Nat) "java/util/ArrayList") ∈ gw := gw_9 167 rfl rfl
theorem wr_7_4 : (Jvm.Cond.instantiable "java/util/ArrayList" (3 : Nat)) ∈ gw := gw_7 4 rfl rfl
theorem dr_cX12_init_8 : decode cX12_init 8 = .ok (.dup, 1) := by decide +kernel
theorem dr_cX12_init_9 : decode cX12_init 9 = .ok (.invokespecial 11, 3) := by decide +kernel
theorem wr_9_168 : (Jvm.Cond.methodLink "SpillForgeModel$Block" (11 : Nat) ({ cls := "java/util/ArrayList", name := "<init>", desc := "()V" } : Jvm.MethodName)) ∈ gw := gw_9 168 rfl rfl
theorem wr_7_7 : (Jvm.Cond.code ({ cls := "java/util/ArrayList", name := "<init>", desc := "()V" } : Jvm.MethodName) prog_43_method_2_code (1 : Nat) (Option.none : Option Jvm.ClassFile.FieldType)) ∈ gw := gw_7 7 rfl rfl
theorem wr_7_6 : (Jvm.Cond.instanceMethod ({ cls := "java/util/ArrayList", name := "<init>", desc := "()V" } : Jvm.MethodName)) ∈ gw := gw_7 6 rfl rfl
theorem dr_cX12_init_12 : decode cX12_init 12 = .ok (.putfield 12, 3) := by decide +kernel
theorem wr_9_218 : (Jvm.Cond.fieldLink "SpillForgeModel$Block" (12 : Nat) "SpillForgeModel$Block" "rows" "Ljava/util/ArrayList;") ∈ gw := gw_9 218 rfl rfl
theorem dr_cX12_init_15 : decode cX12_init 15 = .ok (.aload_n 0, 1) := by decide +kernel
theorem dr_cX12_init_16 : decode cX12_init 16 = .ok (.new 18, 3) := by decide +kernel
theorem wr_9_169 : (Jvm.Cond.classLink "SpillForgeModel$Block" (18 : Nat) "SpillForgeModel$Row") ∈ gw := gw_9 169 rfl rfl
theorem dr_cX12_init_19 : decode cX12_init 19 = .ok (.dup, 1) := by decide +kernel
theorem dr_cX12_init_20 : decode cX12_init 20 = .ok (.invokespecial 20, 3) := by decide +kernel
theorem dr_cX12_init_23 : decode cX12_init 23 = .ok (.putfield 21, 3) := by decide +kernel
theorem dr_cX12_init_26 : decode cX12_init 26 = .ok (.return_, 1) := by decide +kernel
theorem dr_cX13_block_14 : decode cX13_block 14 = .ok (.aload_n 0, 1) := by decide +kernel
theorem dr_cX13_block_15 : decode cX13_block 15 = .ok (.getfield 10, 3) := by decide +kernel
theorem dr_cX13_block_18 : decode cX13_block 18 = .ok (.new 30, 3) := by decide +kernel
theorem wr_9_162 : (Jvm.Cond.instantiable "SpillForgeModel$Block" (4 : Nat)) ∈ gw := gw_9 162 rfl rfl
theorem wr_1_38 : (Jvm.Cond.initialized "SpillForgeModel$Block") ∈ gw := gw_1 38 rfl rfl
theorem dr_cX13_block_21 : decode cX13_block 21 = .ok (.dup, 1) := by decide +kernel
theorem dr_cX13_block_22 : decode cX13_block 22 = .ok (.invokespecial 32, 3) := by decide +kernel
theorem wr_9_165 : (Jvm.Cond.code ({ cls := "SpillForgeModel$Block", name := "<init>", desc := "()V" } : Jvm.MethodName) prog_15_method_1_code (1 : Nat) (Option.none : Option Jvm.ClassFile.FieldType)) ∈ gw := gw_9 165 rfl rfl
theorem wr_9_164 : (Jvm.Cond.instanceMethod ({ cls := "SpillForgeModel$Block", name := "<init>", desc := "()V" } : Jvm.MethodName)) ∈ gw := gw_9 164 rfl rfl
theorem dr_cX13_block_25 : decode cX13_block 25 = .ok (.invokevirtual 33, 3) := by decide +kernel
theorem dr_cX13_block_28 : decode cX13_block 28 = .ok (.pop, 1) := by decide +kernel
abbrev ky_2702_ArrayList_size : gKey := (cJx4a65c_size_8abf5, 1, "java/util/ArrayList", (some FieldType.int), [], "size", fun _ _ => True)
def pp_2702_ArrayList_size (D : va_G) (I : FieldType → ClassId) (P2697 : List Nat) (F2698 : Nat → va_E) (q2699 : Nat) (p2700 : Int32) (p2701 : Int32) : Option Value → va_W → Nat → Nat → Prop := fun r w dc ds => r = some (.int p2701) ∧ w = va_pl P2697 F2698 ∧ dc ≤ 0 ∧ ds ≤ 0
set_option maxRecDepth 100000 in
set_option maxHeartbeats 4000000 in
theorem cp_2702_ArrayList_size (l : Launch) (hl0 : l.stackTraces = false) (D : va_G) (I : FieldType → ClassId) (P2697 : List Nat) (F2698 : Nat → va_E) (q2699 : Nat) (p2700 : Int32) (p2701 : Int32) (hmq2699 : q2699 ∈ P2697) (heq2699 : F2698 q2699 = .inr (4, [.int p2700, .ref (D.2 1002 1), .int p2701])) (bp2701 : gB p2701 0 16777216) : CtA (gV D I) l yJx4a65c_size_8abf5 cJx4a65c_size_8abf5 1 (some FieldType.int) 0 0 0 0 [.ref q2699] (va_pl P2697 F2698) (pp_2702_ArrayList_size D I P2697 F2698 q2699 p2700 p2701) gNA := by
  refine CtA_ofF hl0 (by decide +kernel) (Nat.le_of_ble_eq_true rfl) ?_
  have bp2700 := gB_any p2700
  refine G_aload_n 0 dr_cJx4a65c_size_8abf5_0 rfl ?_
  refine Gp_get 2 hmq2699 heq2699 dr_cJx4a65c_size_8abf5_1 (gk_Jx4a65c D I) (Nat.le_of_ble_eq_true rfl) wr_7_18 rfl ?_
  exact G_iretA dr_cJx4a65c_size_8abf5_4 rfl (Nat.le_of_ble_eq_true rfl) (Nat.le_of_ble_eq_true rfl) ⟨rfl, rfl, (Nat.le_of_ble_eq_true rfl), (Nat.le_of_ble_eq_true rfl)⟩
abbrev ky_2696_Code_row : gKey := (cX13_row, 2, "SpillForgeModel$Code", (some (FieldType.object "SpillForgeModel$Row")), [], "row", fun _ _ => True)
def pp_2696_Code_row (D : va_G) (I : FieldType → ClassId) (P2685 : List Nat) (F2686 : Nat → va_E) (q2687 : Nat) (q2688 : Nat) (qo2689 : Nat) (p2690 : Int32) (p2691 : Int32) (p2692 : Int32) (p2693 : Int32) : Option Value → va_W → Nat → Nat → Prop := fun r w dc ds => ∃ (P2833 : List Nat) (F2834 : Nat → va_E) (o2826 : Int32) (q2827 : Nat) (o2828 : Int32) (o2829 : Int32) (q2830 : Nat) (n2831 : Nat) (f2832 : Nat → Option Nat), r = some (.ref q2827) ∧ w = va_pl P2833 F2834 ∧ rSub P2685 P2833 ∧ rFr [q2687, q2688] P2685 F2686 F2834 ∧ F2834 q2687 = .inr (18, [.ref qo2689, .ref q2688, .int o2826, .int p2691]) ∧ F2834 q2827 = .inr (20, [.int 0, .int 0, .int 0, .int 0, .int 0, .int 0, .int 0]) ∧ F2834 q2688 = .inr (4, [.int o2828, .ref q2830, .int o2829]) ∧ F2834 q2830 = .inl (I (.object "java/lang/Object"), n2831, .inr (.inr (.inr (.inr f2832)))) ∧ q2827 ∈ P2833 ∧ q2827 ∉ P2685 ∧ q2830 ∈ P2833 ∧ q2830 ∉ P2685 ∧ dc ≤ 2 ∧ ds ≤ 17 ∧ gB o2826 1 1000001 ∧ gB o2829 1 1 ∧ o2826.toInt = p2690.toInt + 1 ∧ o2829.toInt = p2693.toInt + 1 ∧ f2832 p2693.toInt.toNat = some q2827 ∧ (∀ j w, f2832 j = some w → w = q2827) ∧ (n2831 : Int) = 10
set_option maxRecDepth 100000 in
set_option maxHeartbeats 4000000 in
theorem cp_2696_Code_row (l : Launch) (hl0 : l.stackTraces = false) (D : va_G) (I : FieldType → ClassId) (P2685 : List Nat) (F2686 : Nat → va_E) (q2687 : Nat) (q2688 : Nat) (qo2689 : Nat) (p2690 : Int32) (p2691 : Int32) (p2692 : Int32) (p2693 : Int32) (hmq2687 : q2687 ∈ P2685) (hmq2688 : q2688 ∈ P2685) (heq2687 : F2686 q2687 = .inr (18, [.ref qo2689, .ref q2688, .int p2690, .int p2691])) (heq2688 : F2686 q2688 = .inr (4, [.int p2692, .ref (D.2 1002 1), .int p2693])) (bp2690 : gB p2690 0 1000000) (bp2691 : gB p2691 0 1000000) (bp2693 : gB p2693 0 1000000) (x2694 : p2690.toInt = p2693.toInt) (x2695 : p2693.toInt = 0) : CtA (gV D I) l yX13_row cX13_row 2 (some (FieldType.object "SpillForgeModel$Row")) 5 101 2 17 [.ref q2687] (va_pl P2685 F2686) (pp_2696_Code_row D I P2685 F2686 q2687 q2688 qo2689 p2690 p2691 p2692 p2693) gNA := by
  refine CtA_of hl0 (by decide) (Nat.le_of_ble_eq_true rfl) ?_
  have bp2692 := gB_any p2692
  refine G_aload_n 0 dr_cX13_row_0 rfl ?_
  refine Gp_get 2 hmq2687 heq2687 dr_cX13_row_1 (gk_X13 D I) (Nat.le_of_ble_eq_true rfl) wr_7_32 rfl ?_
  refine G_aload_n 0 dr_cX13_row_4 rfl ?_
  refine Gp_get 1 hmq2687 heq2687 dr_cX13_row_5 (gk_X13 D I) (Nat.le_of_ble_eq_true rfl) wr_7_31 rfl ?_
  refine Gw_callV (As := []) (gV_ok D I) (cp_2702_ArrayList_size l hl0 D I P2685 F2686 q2688 p2692 p2693 hmq2688 heq2688 (gB_w bp2693 (by decide) (by decide))) dr_cX13_row_8 ⟨wr_9_157, wr_1_18, wr_9_160, by decide, rfl, (Nat.le_of_ble_eq_true rfl), (Nat.le_of_ble_eq_true rfl)⟩ wr_9_158 wr_9_159 hmq2688 heq2688 rfl (show 0 + 0 ≤ 2 by first | omega | decide) (show 0 + 0 ≤ 17 by first | omega | decide) (Nat.le_of_ble_eq_true rfl) (fun r2706 w2707 dc2703 ds2704 hp2705 => ?_) (fun _ _ _ _ _ z => z.elim)
  obtain ⟨rfl, rfl, hdc, hds⟩ := hp2705
  change G _ _ _ _ _ _ _ (.int p2693 :: _) _ _ _
  refine G_widen (cs' := 0) (sl' := 0) (by omega) (by omega) ?_
  refine G_icmp_ne 29 dr_cX13_row_11 (by decide +kernel) (fun hc => absurd (show False by have := gC_ne hc; omega) not_false) (fun hc2708 => ?_)
  have r2710 : p2690.toInt = p2693.toInt := gC_eq hc2708
  refine G_aload_n 0 dr_cX13_row_14 rfl ?_
  refine Gp_get 1 hmq2687 heq2687 dr_cX13_row_15 (gk_X13 D I) (Nat.le_of_ble_eq_true rfl) wr_7_31 rfl ?_
  refine G_new [.int 0, .int 0, .int 0, .int 0, .int 0, .int 0, .int 0] dr_cX13_row_18 (gk_X15 D I) wr_10_83 wr_9_170 wr_1_39 (gfs_X15) (show 0 + 1 ≤ 2 by first | omega | decide) (show 0 + 7 ≤ 17 by first | omega | decide) (fun q2711 => Gp_in (fun P2712 F2713 hq2714 hP2715 e2716 n2717 => ?_))
  refine G_widen (cs' := 1) (sl' := 7) (by omega) (by omega) ?_
  have he2718 : F2713 q2687 = .inr (18, [.ref qo2689, .ref q2688, .int p2690, .int p2691]) := (n2717 q2687 (fun h => hq2714 (h ▸ hmq2687))).trans heq2687
  have he2719 : F2713 q2688 = .inr (4, [.int p2692, .ref (D.2 1002 1), .int p2693]) := (n2717 q2688 (fun h => hq2714 (h ▸ hmq2688))).trans heq2688
  have he2720 : F2713 q2711 = .inr (20, [.int 0, .int 0, .int 0, .int 0, .int 0, .int 0, .int 0]) := e2716
  have hm2721 : q2687 ∈ P2712 := (hP2715 q2687).mpr (Or.inl hmq2687)
  have hm2722 : q2688 ∈ P2712 := (hP2715 q2688).mpr (Or.inl hmq2688)
  have hm2723 : q2711 ∈ P2712 := (hP2715 q2711).mpr (Or.inr rfl)
  have hq2724 : q2711 ∉ P2685 := fun z => hq2714 ((rSub_rf (P := P2685)) q2711 z)
  have hfr2725 : rFr [] P2685 F2686 F2713 := rFr_new (rSub_rf (P := P2685)) hq2714 (rFr_rf (W := []) (P := P2685) (F := F2686)) n2717
  have hsb2726 : rSub P2685 P2712 := rSub_new (rSub_rf (P := P2685)) hP2715
  refine G_dup dr_cX13_row_21 rfl ?_
  refine Gw_callIN (As := []) (gV_ok D I) (cp_2427_Row_init l hl0 D I P2712 F2713 q2711 0 0 0 0 0 0 0 hm2723 he2720 (gB_w (gBl (show Int32.toInt 0 = 0 by decide)) (by decide) (by decide)) (gB_w (gBl (show Int32.toInt 0 = 0 by decide)) (by decide) (by decide)) (gB_w (gBl (show Int32.toInt 0 = 0 by decide)) (by decide) (by decide)) (gB_w (gBl (show Int32.toInt 0 = 0 by decide)) (by decide) (by decide)) (gB_w (gBl (show Int32.toInt 0 = 0 by decide)) (by decide) (by decide))) dr_cX13_row_22 ⟨(fun _ _ _ h => gn_w 80 rfl h), wr_1_39, wr_9_173, by decide, rfl, (Nat.le_of_ble_eq_true rfl), (Nat.le_of_ble_eq_true rfl)⟩ wr_9_172 rfl (show 1 + 0 ≤ 2 by first | omega | decide) (show 7 + 0 ≤ 17 by first | omega | decide) (Nat.le_of_ble_eq_true rfl) (fun r2730 w2731 dc2727 ds2728 hp2729 => ?_)
  obtain ⟨rfl, rfl, hdc, hds⟩ := hp2729
  change G _ _ _ _ _ _ _ _ _ _ _
  refine G_widen (cs' := 1) (sl' := 7) (by omega) (by omega) ?_
  refine Gw_callV (As := [.ref q2711]) (gV_ok D I) (cp_746_ArrayList_add l hl0 D I P2712 F2713 q2688 q2711 p2692 p2693 0 0 0 0 0 0 0 hm2722 hm2723 he2719 he2720 (gB_w bp2693 (by decide) (by decide)) (gB_w (gBl (show Int32.toInt 0 = 0 by decide)) (by decide) (by decide)) (gB_w (gBl (show Int32.toInt 0 = 0 by decide)) (by decide) (by decide)) (gB_w (gBl (show Int32.toInt 0 = 0 by decide)) (by decide) (by decide)) (gB_w (gBl (show Int32.toInt 0 = 0 by decide)) (by decide) (by decide)) (gB_w (gBl (show Int32.toInt 0 = 0 by decide)) (by decide) (by decide)) (by have qa0 : Int32.toInt 0 = 0 := (by decide); omega)) dr_cX13_row_25 ⟨wr_10_3, wr_1_18, wr_10_6, by decide, rfl, (Nat.le_of_ble_eq_true rfl), (Nat.le_of_ble_eq_true rfl)⟩ wr_10_4 wr_10_5 hm2722 he2719 rfl (show 1 + 1 ≤ 2 by first | omega | decide) (show 7 + 10 ≤ 17 by first | omega | decide) (Nat.le_of_ble_eq_true rfl) (fun r2735 w2736 dc2732 ds2733 hp2734 => ?_) (fun _ _ _ _ _ z => z.elim)
  obtain ⟨P2746, F2747, o2737, o2738, q2739, n2740, f2741, rfl, rfl, hsb2748, hfr2749, he2750, he2751, he2752, hm2753, hq2754, hdc, hds, bo2738, x2742, x2743, x2744, x2745⟩ := hp2734
  have hm2755 : q2687 ∈ P2746 := hsb2748 q2687 hm2721
  have hm2756 : q2688 ∈ P2746 := hsb2748 q2688 hm2722
  have hm2757 : q2711 ∈ P2746 := hsb2748 q2711 hm2723
  have hq2758 : q2739 ∉ P2685 := fun z => hq2754 (hsb2726 q2739 z)
  have hsb2759 : rSub P2685 P2746 := rSub_tr hsb2726 hsb2748
  have he2760 : F2747 q2687 = .inr (18, [.ref qo2689, .ref q2688, .int p2690, .int p2691]) := (hfr2749 q2687 hm2721 (nm_c (rn_oo he2718 he2719 (by decide)) nm_n)).trans he2718
  have hfr2761 : rFr [q2688] P2685 F2686 F2747 := rFr_call hsb2726 hfr2725 hfr2749 (fun b hb hn => ⟨nm_n, (nm_c (fun e => hn (e ▸ List.mem_cons_self)) nm_n)⟩)
  have bo2737 := gB_any o2737
  change G _ _ _ _ _ _ _ (.int 1 :: _) _ _ _
  refine G_widen (cs' := 2) (sl' := 17) (by omega) (by omega) ?_
  have hx2762 : f2741 p2690.toNatClampNeg = some q2711 := by show f2741 p2690.toInt.toNat = _; rw [show p2690.toInt = p2693.toInt by omega]; exact x2743
  refine G_pop dr_cX13_row_28 rfl ?_
  refine G_aload_n 0 dr_cX13_row_29 rfl ?_
  refine Gp_get 1 hm2755 he2760 dr_cX13_row_30 (gk_X13 D I) (Nat.le_of_ble_eq_true rfl) wr_7_31 rfl ?_
  refine G_aload_n 0 dr_cX13_row_33 rfl ?_
  refine Gp_get 2 hm2755 he2760 dr_cX13_row_34 (gk_X13 D I) (Nat.le_of_ble_eq_true rfl) wr_7_32 rfl ?_
  refine Gw_callV (As := [.int p2690]) (gV_ok D I) (cp_22_ArrayList_get l hl0 D I P2746 F2747 q2688 q2739 p2690 o2737 o2738 f2741 n2740 q2711 hm2756 hm2753 he2751 he2752 (gB_w bp2690 (by decide) (by decide)) (gB_w bo2738 (by decide) (by decide)) (by have qa0 : Int32.toInt 0 = 0 := (by decide); omega) (by have qa0 : Int32.toInt 0 = 0 := (by decide); omega) (by assumption) (by have qa0 : Int32.toInt 0 = 0 := (by decide); omega)) dr_cX13_row_37 ⟨wr_10_62, wr_1_18, wr_10_65, by decide, rfl, (Nat.le_of_ble_eq_true rfl), (Nat.le_of_ble_eq_true rfl)⟩ wr_10_63 wr_10_64 hm2756 he2751 rfl (show 2 + 0 ≤ 2 by first | omega | decide) (show 17 + 0 ≤ 17 by first | omega | decide) (Nat.le_of_ble_eq_true rfl) (fun r2766 w2767 dc2763 ds2764 hp2765 => ?_) (fun _ _ _ _ _ z => z.elim)
  obtain ⟨rfl, rfl, hdc, hds, ht2768⟩ := hp2765
  change G _ _ _ _ _ _ _ (.ref q2711 :: _) _ _ _
  refine G_widen (cs' := 2) (sl' := 17) (by omega) (by omega) ?_
  refine Gp_cast hm2757 he2750 rfl dr_cX13_row_40 wr_10_83 (gr_cast 1 rfl) ?_
  refine G_astore_n (L' := [(1, .ref q2711), (0, .ref q2687)]) dr_cX13_row_43 (Nat.le_of_ble_eq_true rfl) rfl ?_
  refine G_aload_n 1 dr_cX13_row_44 rfl ?_
  refine G_dup dr_cX13_row_45 rfl ?_
  refine Gp_get 2 hm2755 he2760 dr_cX13_row_46 (gk_X13 D I) (Nat.le_of_ble_eq_true rfl) wr_7_32 rfl ?_
  refine G_iconst 1 dr_cX13_row_49 (by decide +kernel) ?_
  refine G_iadd dr_cX13_row_50 (G_nam fun z2769 hz2769 => ?_)
  have ez2769 : z2769.toInt = p2690.toInt + 1 := by rw [gI_add hz2769 bp2690 (gBl (show Int32.toInt 1 = 1 by decide)) (by decide) (by decide), show Int32.toInt 1 = 1 from by decide]
  have bz2769 : gB z2769 1 1000001 := gB_add (gI_add hz2769 bp2690 (gBl (show Int32.toInt 1 = 1 by decide)) (by decide) (by decide)) bp2690 (gBl (show Int32.toInt 1 = 1 by decide)) (by decide) (by decide)
  refine Gp_put 2 hm2755 he2760 dr_cX13_row_51 (gk_X13 D I) (Nat.le_of_ble_eq_true rfl) wr_7_32 rfl rfl rfl (Nat.le_of_ble_eq_true rfl) (fun F2770 e2771 n2772 => ?_)
  have he2773 : F2770 q2711 = .inr (20, [.int 0, .int 0, .int 0, .int 0, .int 0, .int 0, .int 0]) := (n2772 q2711 (fun h => hq2724 (h ▸ hmq2687))).trans he2750
  have he2774 : F2770 q2688 = .inr (4, [.int o2737, .ref q2739, .int o2738]) := (n2772 q2688 (rn_oo he2751 he2760 (by decide))).trans he2751
  have he2775 : F2770 q2739 = .inl (I (.object "java/lang/Object"), n2740, .inr (.inr (.inr (.inr f2741)))) := (n2772 q2739 (fun h => hq2758 (h ▸ hmq2687))).trans he2752
  have he2776 : F2770 q2687 = .inr (18, [.ref qo2689, .ref q2688, .int z2769, .int p2691]) := e2771
  have hfr2777 : rFr [q2687, q2688] P2685 F2686 F2770 := rFr_put hfr2761 n2772
  refine G_aload_n 0 dr_cX13_row_54 rfl ?_
  refine G_iconst 0 dr_cX13_row_55 (by decide +kernel) ?_
  refine Gp_put 5 hm2757 he2773 dr_cX13_row_56 (gk_X15 D I) (Nat.le_of_ble_eq_true rfl) wr_9_196 rfl rfl rfl (Nat.le_of_ble_eq_true rfl) (fun F2778 e2779 n2780 => ?_)
  have he2781 : F2778 q2687 = .inr (18, [.ref qo2689, .ref q2688, .int z2769, .int p2691]) := (n2780 q2687 (fun h => hq2724 (h ▸ hmq2687))).trans he2776
  have he2782 : F2778 q2688 = .inr (4, [.int o2737, .ref q2739, .int o2738]) := (n2780 q2688 (fun h => hq2724 (h ▸ hmq2688))).trans he2774
  have he2783 : F2778 q2739 = .inl (I (.object "java/lang/Object"), n2740, .inr (.inr (.inr (.inr f2741)))) := (n2780 q2739 (rn_ao he2775 he2773)).trans he2775
  have he2784 : F2778 q2711 = .inr (20, [.int 0, .int 0, .int 0, .int 0, .int 0, .int 0, .int 0]) := e2779
  have hfr2785 : rFr [q2687, q2688] P2685 F2686 F2778 := rFr_newp hq2724 hfr2777 n2780
  refine G_aload_n 0 dr_cX13_row_59 rfl ?_
  refine G_iconst 0 dr_cX13_row_60 (by decide +kernel) ?_
  refine Gp_put 6 hm2757 he2784 dr_cX13_row_61 (gk_X15 D I) (Nat.le_of_ble_eq_true rfl) wr_9_200 rfl rfl rfl (Nat.le_of_ble_eq_true rfl) (fun F2786 e2787 n2788 => ?_)
  have he2789 : F2786 q2687 = .inr (18, [.ref qo2689, .ref q2688, .int z2769, .int p2691]) := (n2788 q2687 (fun h => hq2724 (h ▸ hmq2687))).trans he2781
  have he2790 : F2786 q2688 = .inr (4, [.int o2737, .ref q2739, .int o2738]) := (n2788 q2688 (fun h => hq2724 (h ▸ hmq2688))).trans he2782
  have he2791 : F2786 q2739 = .inl (I (.object "java/lang/Object"), n2740, .inr (.inr (.inr (.inr f2741)))) := (n2788 q2739 (rn_ao he2783 he2784)).trans he2783
  have he2792 : F2786 q2711 = .inr (20, [.int 0, .int 0, .int 0, .int 0, .int 0, .int 0, .int 0]) := e2787
  have hfr2793 : rFr [q2687, q2688] P2685 F2686 F2786 := rFr_newp hq2724 hfr2785 n2788
  refine G_aload_n 0 dr_cX13_row_64 rfl ?_
  refine G_iconst 0 dr_cX13_row_65 (by decide +kernel) ?_
  refine Gp_put 2 hm2757 he2792 dr_cX13_row_66 (gk_X15 D I) (Nat.le_of_ble_eq_true rfl) wr_9_184 rfl rfl rfl (Nat.le_of_ble_eq_true rfl) (fun F2794 e2795 n2796 => ?_)
  have he2797 : F2794 q2687 = .inr (18, [.ref qo2689, .ref q2688, .int z2769, .int p2691]) := (n2796 q2687 (fun h => hq2724 (h ▸ hmq2687))).trans he2789
  have he2798 : F2794 q2688 = .inr (4, [.int o2737, .ref q2739, .int o2738]) := (n2796 q2688 (fun h => hq2724 (h ▸ hmq2688))).trans he2790
  have he2799 : F2794 q2739 = .inl (I (.object "java/lang/Object"), n2740, .inr (.inr (.inr (.inr f2741)))) := (n2796 q2739 (rn_ao he2791 he2792)).trans he2791
  have he2800 : F2794 q2711 = .inr (20, [.int 0, .int 0, .int 0, .int 0, .int 0, .int 0, .int 0]) := e2795
  have hfr2801 : rFr [q2687, q2688] P2685 F2686 F2794 := rFr_newp hq2724 hfr2793 n2796
  refine G_aload_n 0 dr_cX13_row_69 rfl ?_
  refine G_iconst 0 dr_cX13_row_70 (by decide +kernel) ?_
  refine Gp_put 3 hm2757 he2800 dr_cX13_row_71 (gk_X15 D I) (Nat.le_of_ble_eq_true rfl) wr_9_188 rfl rfl rfl (Nat.le_of_ble_eq_true rfl) (fun F2802 e2803 n2804 => ?_)
  have he2805 : F2802 q2687 = .inr (18, [.ref qo2689, .ref q2688, .int z2769, .int p2691]) := (n2804 q2687 (fun h => hq2724 (h ▸ hmq2687))).trans he2797
  have he2806 : F2802 q2688 = .inr (4, [.int o2737, .ref q2739, .int o2738]) := (n2804 q2688 (fun h => hq2724 (h ▸ hmq2688))).trans he2798
  have he2807 : F2802 q2739 = .inl (I (.object "java/lang/Object"), n2740, .inr (.inr (.inr (.inr f2741)))) := (n2804 q2739 (rn_ao he2799 he2800)).trans he2799
  have he2808 : F2802 q2711 = .inr (20, [.int 0, .int 0, .int 0, .int 0, .int 0, .int 0, .int 0]) := e2803
  have hfr2809 : rFr [q2687, q2688] P2685 F2686 F2802 := rFr_newp hq2724 hfr2801 n2804
  refine G_aload_n 0 dr_cX13_row_74 rfl ?_
  refine G_iconst 0 dr_cX13_row_75 (by decide +kernel) ?_
  refine Gp_put 1 hm2757 he2808 dr_cX13_row_76 (gk_X15 D I) (Nat.le_of_ble_eq_true rfl) wr_9_180 rfl rfl rfl (Nat.le_of_ble_eq_true rfl) (fun F2810 e2811 n2812 => ?_)
  have he2813 : F2810 q2687 = .inr (18, [.ref qo2689, .ref q2688, .int z2769, .int p2691]) := (n2812 q2687 (fun h => hq2724 (h ▸ hmq2687))).trans he2805
  have he2814 : F2810 q2688 = .inr (4, [.int o2737, .ref q2739, .int o2738]) := (n2812 q2688 (fun h => hq2724 (h ▸ hmq2688))).trans he2806
  have he2815 : F2810 q2739 = .inl (I (.object "java/lang/Object"), n2740, .inr (.inr (.inr (.inr f2741)))) := (n2812 q2739 (rn_ao he2807 he2808)).trans he2807
  have he2816 : F2810 q2711 = .inr (20, [.int 0, .int 0, .int 0, .int 0, .int 0, .int 0, .int 0]) := e2811
  have hfr2817 : rFr [q2687, q2688] P2685 F2686 F2810 := rFr_newp hq2724 hfr2809 n2812
  refine G_aload_n 0 dr_cX13_row_79 rfl ?_
  refine G_iconst 0 dr_cX13_row_80 (by decide +kernel) ?_
  refine Gp_put 4 hm2757 he2816 dr_cX13_row_81 (gk_X15 D I) (Nat.le_of_ble_eq_true rfl) wr_9_192 rfl rfl rfl (Nat.le_of_ble_eq_true rfl) (fun F2818 e2819 n2820 => ?_)
  have he2821 : F2818 q2687 = .inr (18, [.ref qo2689, .ref q2688, .int z2769, .int p2691]) := (n2820 q2687 (fun h => hq2724 (h ▸ hmq2687))).trans he2813
  have he2822 : F2818 q2688 = .inr (4, [.int o2737, .ref q2739, .int o2738]) := (n2820 q2688 (fun h => hq2724 (h ▸ hmq2688))).trans he2814
  have he2823 : F2818 q2739 = .inl (I (.object "java/lang/Object"), n2740, .inr (.inr (.inr (.inr f2741)))) := (n2820 q2739 (rn_ao he2815 he2816)).trans he2815
  have he2824 : F2818 q2711 = .inr (20, [.int 0, .int 0, .int 0, .int 0, .int 0, .int 0, .int 0]) := e2819
  have hfr2825 : rFr [q2687, q2688] P2685 F2686 F2818 := rFr_newp hq2724 hfr2817 n2820
  refine G_aload_n 0 dr_cX13_row_84 rfl ?_
  exact G_aretA (FieldType.object "SpillForgeModel$Row") dr_cX13_row_85 rfl (by first | exact Or.inl ⟨_, rfl⟩ | exact Or.inr ⟨_, rfl⟩) (Or.inr ⟨_, rfl⟩) (Nat.le_of_ble_eq_true rfl) (Nat.le_of_ble_eq_true rfl) ⟨P2746, F2818, z2769, q2711, o2737, o2738, q2739, n2740, f2741, rfl, rfl, hsb2759, hfr2825, he2821, he2824, he2822, he2823, hm2757, hq2724, hm2753, hq2758, (Nat.le_of_ble_eq_true rfl), (Nat.le_of_ble_eq_true rfl), bz2769, bo2738, (by have qa0 : Int32.toInt 0 = 0 := (by decide); omega), (by have qa0 : Int32.toInt 0 = 0 := (by decide); omega), (by assumption), (by assumption), (by have qa0 : Int32.toInt 0 = 0 := (by decide); omega)⟩
abbrev ky_2864_Code_block : gKey := (cX13_block, 2, "SpillForgeModel$Code", (some (FieldType.object "SpillForgeModel$Block")), [], "block", fun _ _ => True)
def pp_2864_Code_block (D : va_G) (I : FieldType → ClassId) (P2835 : List Nat) (F2836 : Nat → va_E) (q2837 : Nat) (q2838 : Nat) (q2839 : Nat) (qo2840 : Nat) (p2841 : Int32) (p2842 : Int32) (p2843 : Int32) (p2844 : Int32) (f2845 : Nat → Option Nat) (n2846 : Nat) (z2847 : Nat) (y2848 : Nat) (x2849 : Nat) (n2850 : Nat) (f2851 : Nat → Option Nat) (p2852 : Int32) (p2853 : Int32) (qo2854 : Nat) (p2855 : Int32) (p2856 : Int32) : Option Value → va_W → Nat → Nat → Prop := fun r w dc ds => ∃ (F2912 : Nat → va_E) (o2908 : Int32) (o2909 : Int32) (f2910 : Nat → Option Nat), r = some (.ref x2849) ∧ w = va_pl P2835 F2912 ∧ rFr [q2837, y2848, z2847] P2835 F2836 F2912 ∧ F2912 q2837 = .inr (18, [.ref q2838, .ref qo2840, .int p2841, .int o2908]) ∧ F2912 q2838 = .inr (4, [.int p2843, .ref q2839, .int p2844]) ∧ F2912 q2839 = .inl (I (.object "java/lang/Object"), n2846, .inr (.inr (.inr (.inr f2845)))) ∧ F2912 x2849 = .inr (17, [.ref y2848, .ref qo2854, .int p2855, .int p2856]) ∧ F2912 y2848 = .inr (4, [.int o2909, .ref z2847, .int 0]) ∧ F2912 z2847 = .inl (I (.object "java/lang/Object"), n2850, .inr (.inr (.inr (.inr f2910)))) ∧ dc ≤ 0 ∧ ds ≤ 0 ∧ gB o2908 1 1000001 ∧ o2908.toInt = p2842.toInt + 1 ∧ rSrc f2910 f2851
set_option maxRecDepth 100000 in
set_option maxHeartbeats 4000000 in
theorem cp_2864_Code_block (l : Launch) (hl0 : l.stackTraces = false) (D : va_G) (I : FieldType → ClassId) (P2835 : List Nat) (F2836 : Nat → va_E) (q2837 : Nat) (q2838 : Nat) (q2839 : Nat) (qo2840 : Nat) (p2841 : Int32) (p2842 : Int32) (p2843 : Int32) (p2844 : Int32) (f2845 : Nat → Option Nat) (n2846 : Nat) (z2847 : Nat) (y2848 : Nat) (x2849 : Nat) (n2850 : Nat) (f2851 : Nat → Option Nat) (p2852 : Int32) (p2853 : Int32) (qo2854 : Nat) (p2855 : Int32) (p2856 : Int32) (hmq2837 : q2837 ∈ P2835) (hmq2838 : q2838 ∈ P2835) (hmq2839 : q2839 ∈ P2835) (hmz2847 : z2847 ∈ P2835) (hmy2848 : y2848 ∈ P2835) (hmx2849 : x2849 ∈ P2835) (heq2837 : F2836 q2837 = .inr (18, [.ref q2838, .ref qo2840, .int p2841, .int p2842])) (heq2838 : F2836 q2838 = .inr (4, [.int p2843, .ref q2839, .int p2844])) (heq2839 : F2836 q2839 = .inl (I (.object "java/lang/Object"), n2846, .inr (.inr (.inr (.inr f2845))))) (hez2847 : F2836 z2847 = .inl (I (.object "java/lang/Object"), n2850, .inr (.inr (.inr (.inr f2851))))) (hey2848 : F2836 y2848 = .inr (4, [.int p2852, .ref z2847, .int p2853])) (hex2849 : F2836 x2849 = .inr (17, [.ref y2848, .ref qo2854, .int p2855, .int p2856])) (hneq2839z2847 : q2839 ≠ z2847) (hneq2838y2848 : q2838 ≠ y2848) (bp2841 : gB p2841 0 1000000) (bp2842 : gB p2842 0 1000000) (bp2844 : gB p2844 0 1000000) (bp2853 : gB p2853 0 1000000) (bp2855 : gB p2855 0 39) (bp2856 : gB p2856 0 39) (x2857 : p2842.toInt < p2844.toInt) (x2858 : p2844.toInt ≤ (n2846 : Int)) (x2859 : f2845 p2842.toNatClampNeg = some x2849) (x2860 : rEl P2835 F2836 f2851) (x2861 : p2853.toInt ≤ (n2850 : Int)) (x2862 : (n2850 : Int) ≤ 16777216) (x2863 : ((n2846 : Int) ≤ 16777216)) : CtA (gV D I) l yX13_block cX13_block 2 (some (FieldType.object "SpillForgeModel$Block")) 3 64 0 0 [.ref q2837] (va_pl P2835 F2836) (pp_2864_Code_block D I P2835 F2836 q2837 q2838 q2839 qo2840 p2841 p2842 p2843 p2844 f2845 n2846 z2847 y2848 x2849 n2850 f2851 p2852 p2853 qo2854 p2855 p2856) gNA := by
  refine CtA_of hl0 (by decide) (Nat.le_of_ble_eq_true rfl) ?_
  have bp2843 := gB_any p2843
  have bp2852 := gB_any p2852
  refine G_aload_n 0 dr_cX13_block_0 rfl ?_
  refine Gp_get 3 hmq2837 heq2837 dr_cX13_block_1 (gk_X13 D I) (Nat.le_of_ble_eq_true rfl) wr_7_33 rfl ?_
  refine G_aload_n 0 dr_cX13_block_4 rfl ?_
  refine Gp_get 0 hmq2837 heq2837 dr_cX13_block_5 (gk_X13 D I) (Nat.le_of_ble_eq_true rfl) wr_7_30 rfl ?_
  refine Gw_callV (As := []) (gV_ok D I) (cp_2299_ArrayList_size l hl0 D I P2835 F2836 q2838 q2839 p2843 p2844 f2845 n2846 hmq2838 hmq2839 heq2838 heq2839 (gB_w bp2844 (by decide) (by decide)) (by omega)) dr_cX13_block_8 ⟨wr_9_157, wr_1_18, wr_9_160, by decide, rfl, (Nat.le_of_ble_eq_true rfl), (Nat.le_of_ble_eq_true rfl)⟩ wr_9_158 wr_9_159 hmq2838 heq2838 rfl (show 0 + 0 ≤ 0 by first | omega | decide) (show 0 + 0 ≤ 0 by first | omega | decide) (Nat.le_of_ble_eq_true rfl) (fun r2868 w2869 dc2865 ds2866 hp2867 => ?_) (fun _ _ _ _ _ z => z.elim)
  obtain ⟨rfl, rfl, hdc, hds⟩ := hp2867
  change G _ _ _ _ _ _ _ (.int p2844 :: _) _ _ _
  refine G_widen (cs' := 0) (sl' := 0) (by omega) (by omega) ?_
  refine G_icmp_ne 29 dr_cX13_block_11 (by decide +kernel) (fun hc2870 => ?_) (fun hc => absurd (show False by have := gC_eq hc; omega) not_false)
  have r2872 : p2842.toInt ≠ p2844.toInt := gC_ne hc2870
  refine G_aload_n 0 dr_cX13_block_29 rfl ?_
  refine Gp_get 0 hmq2837 heq2837 dr_cX13_block_30 (gk_X13 D I) (Nat.le_of_ble_eq_true rfl) wr_7_30 rfl ?_
  refine G_aload_n 0 dr_cX13_block_33 rfl ?_
  refine Gp_get 3 hmq2837 heq2837 dr_cX13_block_34 (gk_X13 D I) (Nat.le_of_ble_eq_true rfl) wr_7_33 rfl ?_
  refine Gw_callV (As := [.int p2842]) (gV_ok D I) (cp_22_ArrayList_get l hl0 D I P2835 F2836 q2838 q2839 p2842 p2843 p2844 f2845 n2846 x2849 hmq2838 hmq2839 heq2838 heq2839 (gB_w bp2842 (by decide) (by decide)) (gB_w bp2844 (by decide) (by decide)) (by omega) (by omega) (by assumption) (by omega)) dr_cX13_block_37 ⟨wr_10_62, wr_1_18, wr_10_65, by decide, rfl, (Nat.le_of_ble_eq_true rfl), (Nat.le_of_ble_eq_true rfl)⟩ wr_10_63 wr_10_64 hmq2838 heq2838 rfl (show 0 + 0 ≤ 0 by first | omega | decide) (show 0 + 0 ≤ 0 by first | omega | decide) (Nat.le_of_ble_eq_true rfl) (fun r2876 w2877 dc2873 ds2874 hp2875 => ?_) (fun _ _ _ _ _ z => z.elim)
  obtain ⟨rfl, rfl, hdc, hds, ht2878⟩ := hp2875
  change G _ _ _ _ _ _ _ (.ref x2849 :: _) _ _ _
  refine G_widen (cs' := 0) (sl' := 0) (by omega) (by omega) ?_
  refine Gp_cast hmx2849 hex2849 rfl dr_cX13_block_40 wr_9_161 (gr_cast 0 rfl) ?_
  refine G_astore_n (L' := [(1, .ref x2849), (0, .ref q2837)]) dr_cX13_block_43 (Nat.le_of_ble_eq_true rfl) rfl ?_
  refine G_aload_n 1 dr_cX13_block_44 rfl ?_
  refine G_dup dr_cX13_block_45 rfl ?_
  refine Gp_get 3 hmq2837 heq2837 dr_cX13_block_46 (gk_X13 D I) (Nat.le_of_ble_eq_true rfl) wr_7_33 rfl ?_
  refine G_iconst 1 dr_cX13_block_49 (by decide +kernel) ?_
  refine G_iadd dr_cX13_block_50 (G_nam fun z2879 hz2879 => ?_)
  have ez2879 : z2879.toInt = p2842.toInt + 1 := by rw [gI_add hz2879 bp2842 (gBl (show Int32.toInt 1 = 1 by decide)) (by decide) (by decide), show Int32.toInt 1 = 1 from by decide]
  have bz2879 : gB z2879 1 1000001 := gB_add (gI_add hz2879 bp2842 (gBl (show Int32.toInt 1 = 1 by decide)) (by decide) (by decide)) bp2842 (gBl (show Int32.toInt 1 = 1 by decide)) (by decide) (by decide)
  refine Gp_put 3 hmq2837 heq2837 dr_cX13_block_51 (gk_X13 D I) (Nat.le_of_ble_eq_true rfl) wr_7_33 rfl rfl rfl (Nat.le_of_ble_eq_true rfl) (fun F2880 e2881 n2882 => ?_)
  have he2883 : F2880 q2838 = .inr (4, [.int p2843, .ref q2839, .int p2844]) := (n2882 q2838 (rn_oo heq2838 heq2837 (by decide))).trans heq2838
  have he2884 : F2880 q2839 = .inl (I (.object "java/lang/Object"), n2846, .inr (.inr (.inr (.inr f2845)))) := (n2882 q2839 (rn_ao heq2839 heq2837)).trans heq2839
  have he2885 : F2880 z2847 = .inl (I (.object "java/lang/Object"), n2850, .inr (.inr (.inr (.inr f2851)))) := (n2882 z2847 (rn_ao hez2847 heq2837)).trans hez2847
  have he2886 : F2880 y2848 = .inr (4, [.int p2852, .ref z2847, .int p2853]) := (n2882 y2848 (rn_oo hey2848 heq2837 (by decide))).trans hey2848
  have he2887 : F2880 x2849 = .inr (17, [.ref y2848, .ref qo2854, .int p2855, .int p2856]) := (n2882 x2849 (rn_oo hex2849 heq2837 (by decide))).trans hex2849
  have he2888 : F2880 q2837 = .inr (18, [.ref q2838, .ref qo2840, .int p2841, .int z2879]) := e2881
  have hfr2889 : rFr [q2837] P2835 F2836 F2880 := rFr_put (rFr_rf (W := []) (P := P2835) (F := F2836)) n2882
  refine G_aload_n 0 dr_cX13_block_54 rfl ?_
  refine Gp_get 0 hmx2849 he2887 dr_cX13_block_55 (gk_X12 D I) (Nat.le_of_ble_eq_true rfl) wr_9_219 rfl ?_
  refine Gw_callV (As := []) (gV_ok D I) (cp_1332_ArrayList_clear l hl0 D I P2835 F2880 y2848 z2847 p2852 p2853 f2851 n2850 hmy2848 hmz2847 he2886 he2885 (gB_w bp2853 (by decide) (by decide)) (by omega) (rEl_frG (rEl_src x2860 rSrc_rf) (rSub_rf (P := P2835)) hfr2889 (rNg_c (rNg_o heq2837 (by decide) (by decide)) rNg_n)) (by omega)) dr_cX13_block_58 ⟨wr_10_74, wr_1_18, wr_10_77, by decide, rfl, (Nat.le_of_ble_eq_true rfl), (Nat.le_of_ble_eq_true rfl)⟩ wr_10_75 wr_10_76 hmy2848 he2886 rfl (show 0 + 0 ≤ 0 by first | omega | decide) (show 0 + 0 ≤ 0 by first | omega | decide) (Nat.le_of_ble_eq_true rfl) (fun r2893 w2894 dc2890 ds2891 hp2892 => ?_) (fun _ _ _ _ _ z => z.elim)
  obtain ⟨F2898, o2895, f2896, rfl, rfl, hfr2900, he2901, he2902, hdc, hds, x2897⟩ := hp2892
  have he2903 : F2898 q2837 = .inr (18, [.ref q2838, .ref qo2840, .int p2841, .int z2879]) := (hfr2900 q2837 hmq2837 (nm_c (rn_oo he2888 he2886 (by decide)) (nm_c (rn_oa he2888 he2885) nm_n))).trans he2888
  have he2904 : F2898 q2838 = .inr (4, [.int p2843, .ref q2839, .int p2844]) := (hfr2900 q2838 hmq2838 (nm_c hneq2838y2848 (nm_c (rn_oa he2883 he2885) nm_n))).trans he2883
  have he2905 : F2898 q2839 = .inl (I (.object "java/lang/Object"), n2846, .inr (.inr (.inr (.inr f2845)))) := (hfr2900 q2839 hmq2839 (nm_c (rn_ao he2884 he2886) (nm_c hneq2839z2847 nm_n))).trans he2884
  have he2906 : F2898 x2849 = .inr (17, [.ref y2848, .ref qo2854, .int p2855, .int p2856]) := (hfr2900 x2849 hmx2849 (nm_c (rn_oo he2887 he2886 (by decide)) (nm_c (rn_oa he2887 he2885) nm_n))).trans he2887
  have hfr2907 : rFr [q2837, y2848, z2847] P2835 F2836 F2898 := rFr_call (rSub_rf (P := P2835)) hfr2889 hfr2900 (fun b hb hn => ⟨(nm_c (fun e => hn (e ▸ List.mem_cons_self)) nm_n), (nm_c (fun e => hn (e ▸ (List.mem_cons_of_mem _ List.mem_cons_self))) (nm_c (fun e => hn (e ▸ (List.mem_cons_of_mem _ (List.mem_cons_of_mem _ List.mem_cons_self)))) nm_n))⟩)
  have bo2895 := gB_any o2895
  change G _ _ _ _ _ _ _ _ _ _ _
  refine G_widen (cs' := 0) (sl' := 0) (by omega) (by omega) ?_
  refine G_aload_n 0 dr_cX13_block_61 rfl ?_
  exact G_aretA (FieldType.object "SpillForgeModel$Block") dr_cX13_block_62 rfl (by first | exact Or.inl ⟨_, rfl⟩ | exact Or.inr ⟨_, rfl⟩) (Or.inr ⟨_, rfl⟩) (Nat.le_of_ble_eq_true rfl) (Nat.le_of_ble_eq_true rfl) ⟨F2898, z2879, o2895, f2896, rfl, rfl, hfr2907, he2903, he2904, he2905, he2906, he2901, he2902, (Nat.le_of_ble_eq_true rfl), (Nat.le_of_ble_eq_true rfl), bz2879, (by have qa0 : Int32.toInt 0 = 0 := (by decide); omega), (rSrc_tr x2897 rSrc_rf)⟩
abbrev ky_2937_Code_block : gKey := (cX13_block, 2, "SpillForgeModel$Code", (some (FieldType.object "SpillForgeModel$Block")), [], "block", fun _ _ => True)
def pp_2937_Code_block (D : va_G) (I : FieldType → ClassId) (P2913 : List Nat) (F2914 : Nat → va_E) (q2915 : Nat) (q2916 : Nat) (q2917 : Nat) (qo2918 : Nat) (p2919 : Int32) (p2920 : Int32) (p2921 : Int32) (p2922 : Int32) (f2923 : Nat → Option Nat) (n2924 : Nat) (y2925 : Nat) (x2926 : Nat) (p2927 : Int32) (p2928 : Int32) (qo2929 : Nat) (p2930 : Int32) (p2931 : Int32) : Option Value → va_W → Nat → Nat → Prop := fun r w dc ds => ∃ (F2980 : Nat → va_E) (o2977 : Int32) (o2978 : Int32), r = some (.ref x2926) ∧ w = va_pl P2913 F2980 ∧ rFr [q2915, y2925] P2913 F2914 F2980 ∧ F2980 q2915 = .inr (18, [.ref q2916, .ref qo2918, .int p2919, .int o2977]) ∧ F2980 q2916 = .inr (4, [.int p2921, .ref q2917, .int p2922]) ∧ F2980 q2917 = .inl (I (.object "java/lang/Object"), n2924, .inr (.inr (.inr (.inr f2923)))) ∧ F2980 x2926 = .inr (17, [.ref y2925, .ref qo2929, .int p2930, .int p2931]) ∧ F2980 y2925 = .inr (4, [.int o2978, .ref (D.2 1002 1), .int 0]) ∧ dc ≤ 0 ∧ ds ≤ 0 ∧ gB o2977 1 1000001 ∧ o2977.toInt = p2920.toInt + 1
set_option maxRecDepth 100000 in
set_option maxHeartbeats 4000000 in
theorem cp_2937_Code_block (l : Launch) (hl0 : l.stackTraces = false) (D : va_G) (I : FieldType → ClassId) (P2913 : List Nat) (F2914 : Nat → va_E) (q2915 : Nat) (q2916 : Nat) (q2917 : Nat) (qo2918 : Nat) (p2919 : Int32) (p2920 : Int32) (p2921 : Int32) (p2922 : Int32) (f2923 : Nat → Option Nat) (n2924 : Nat) (y2925 : Nat) (x2926 : Nat) (p2927 : Int32) (p2928 : Int32) (qo2929 : Nat) (p2930 : Int32) (p2931 : Int32) (hmq2915 : q2915 ∈ P2913) (hmq2916 : q2916 ∈ P2913) (hmq2917 : q2917 ∈ P2913) (hmy2925 : y2925 ∈ P2913) (hmx2926 : x2926 ∈ P2913) (heq2915 : F2914 q2915 = .inr (18, [.ref q2916, .ref qo2918, .int p2919, .int p2920])) (heq2916 : F2914 q2916 = .inr (4, [.int p2921, .ref q2917, .int p2922])) (heq2917 : F2914 q2917 = .inl (I (.object "java/lang/Object"), n2924, .inr (.inr (.inr (.inr f2923))))) (hey2925 : F2914 y2925 = .inr (4, [.int p2927, .ref (D.2 1002 1), .int p2928])) (hex2926 : F2914 x2926 = .inr (17, [.ref y2925, .ref qo2929, .int p2930, .int p2931])) (hneq2916y2925 : q2916 ≠ y2925) (bp2919 : gB p2919 0 1000000) (bp2920 : gB p2920 0 1000000) (bp2922 : gB p2922 0 1000000) (bp2928 : gB p2928 0 1000000) (bp2930 : gB p2930 0 39) (bp2931 : gB p2931 0 39) (x2932 : p2920.toInt < p2922.toInt) (x2933 : p2922.toInt ≤ (n2924 : Int)) (x2934 : f2923 p2920.toNatClampNeg = some x2926) (x2935 : p2928.toInt = 0) (x2936 : ((n2924 : Int) ≤ 16777216)) : CtA (gV D I) l yX13_block cX13_block 2 (some (FieldType.object "SpillForgeModel$Block")) 3 64 0 0 [.ref q2915] (va_pl P2913 F2914) (pp_2937_Code_block D I P2913 F2914 q2915 q2916 q2917 qo2918 p2919 p2920 p2921 p2922 f2923 n2924 y2925 x2926 p2927 p2928 qo2929 p2930 p2931) gNA := by
  refine CtA_of hl0 (by decide) (Nat.le_of_ble_eq_true rfl) ?_
  have bp2921 := gB_any p2921
  have bp2927 := gB_any p2927
  refine G_aload_n 0 dr_cX13_block_0 rfl ?_
  refine Gp_get 3 hmq2915 heq2915 dr_cX13_block_1 (gk_X13 D I) (Nat.le_of_ble_eq_true rfl) wr_7_33 rfl ?_
  refine G_aload_n 0 dr_cX13_block_4 rfl ?_
  refine Gp_get 0 hmq2915 heq2915 dr_cX13_block_5 (gk_X13 D I) (Nat.le_of_ble_eq_true rfl) wr_7_30 rfl ?_
  refine Gw_callV (As := []) (gV_ok D I) (cp_2299_ArrayList_size l hl0 D I P2913 F2914 q2916 q2917 p2921 p2922 f2923 n2924 hmq2916 hmq2917 heq2916 heq2917 (gB_w bp2922 (by decide) (by decide)) (by omega)) dr_cX13_block_8 ⟨wr_9_157, wr_1_18, wr_9_160, by decide, rfl, (Nat.le_of_ble_eq_true rfl), (Nat.le_of_ble_eq_true rfl)⟩ wr_9_158 wr_9_159 hmq2916 heq2916 rfl (show 0 + 0 ≤ 0 by first | omega | decide) (show 0 + 0 ≤ 0 by first | omega | decide) (Nat.le_of_ble_eq_true rfl) (fun r2941 w2942 dc2938 ds2939 hp2940 => ?_) (fun _ _ _ _ _ z => z.elim)
  obtain ⟨rfl, rfl, hdc, hds⟩ := hp2940
  change G _ _ _ _ _ _ _ (.int p2922 :: _) _ _ _
  refine G_widen (cs' := 0) (sl' := 0) (by omega) (by omega) ?_
  refine G_icmp_ne 29 dr_cX13_block_11 (by decide +kernel) (fun hc2943 => ?_) (fun hc => absurd (show False by have := gC_eq hc; omega) not_false)
  have r2945 : p2920.toInt ≠ p2922.toInt := gC_ne hc2943
  refine G_aload_n 0 dr_cX13_block_29 rfl ?_
  refine Gp_get 0 hmq2915 heq2915 dr_cX13_block_30 (gk_X13 D I) (Nat.le_of_ble_eq_true rfl) wr_7_30 rfl ?_
  refine G_aload_n 0 dr_cX13_block_33 rfl ?_
  refine Gp_get 3 hmq2915 heq2915 dr_cX13_block_34 (gk_X13 D I) (Nat.le_of_ble_eq_true rfl) wr_7_33 rfl ?_
  refine Gw_callV (As := [.int p2920]) (gV_ok D I) (cp_22_ArrayList_get l hl0 D I P2913 F2914 q2916 q2917 p2920 p2921 p2922 f2923 n2924 x2926 hmq2916 hmq2917 heq2916 heq2917 (gB_w bp2920 (by decide) (by decide)) (gB_w bp2922 (by decide) (by decide)) (by omega) (by omega) (by assumption) (by omega)) dr_cX13_block_37 ⟨wr_10_62, wr_1_18, wr_10_65, by decide, rfl, (Nat.le_of_ble_eq_true rfl), (Nat.le_of_ble_eq_true rfl)⟩ wr_10_63 wr_10_64 hmq2916 heq2916 rfl (show 0 + 0 ≤ 0 by first | omega | decide) (show 0 + 0 ≤ 0 by first | omega | decide) (Nat.le_of_ble_eq_true rfl) (fun r2949 w2950 dc2946 ds2947 hp2948 => ?_) (fun _ _ _ _ _ z => z.elim)
  obtain ⟨rfl, rfl, hdc, hds, ht2951⟩ := hp2948
  change G _ _ _ _ _ _ _ (.ref x2926 :: _) _ _ _
  refine G_widen (cs' := 0) (sl' := 0) (by omega) (by omega) ?_
  refine Gp_cast hmx2926 hex2926 rfl dr_cX13_block_40 wr_9_161 (gr_cast 0 rfl) ?_
  refine G_astore_n (L' := [(1, .ref x2926), (0, .ref q2915)]) dr_cX13_block_43 (Nat.le_of_ble_eq_true rfl) rfl ?_
  refine G_aload_n 1 dr_cX13_block_44 rfl ?_
  refine G_dup dr_cX13_block_45 rfl ?_
  refine Gp_get 3 hmq2915 heq2915 dr_cX13_block_46 (gk_X13 D I) (Nat.le_of_ble_eq_true rfl) wr_7_33 rfl ?_
  refine G_iconst 1 dr_cX13_block_49 (by decide +kernel) ?_
  refine G_iadd dr_cX13_block_50 (G_nam fun z2952 hz2952 => ?_)
  have ez2952 : z2952.toInt = p2920.toInt + 1 := by rw [gI_add hz2952 bp2920 (gBl (show Int32.toInt 1 = 1 by decide)) (by decide) (by decide), show Int32.toInt 1 = 1 from by decide]
  have bz2952 : gB z2952 1 1000001 := gB_add (gI_add hz2952 bp2920 (gBl (show Int32.toInt 1 = 1 by decide)) (by decide) (by decide)) bp2920 (gBl (show Int32.toInt 1 = 1 by decide)) (by decide) (by decide)
  refine Gp_put 3 hmq2915 heq2915 dr_cX13_block_51 (gk_X13 D I) (Nat.le_of_ble_eq_true rfl) wr_7_33 rfl rfl rfl (Nat.le_of_ble_eq_true rfl) (fun F2953 e2954 n2955 => ?_)
  have he2956 : F2953 q2916 = .inr (4, [.int p2921, .ref q2917, .int p2922]) := (n2955 q2916 (rn_oo heq2916 heq2915 (by decide))).trans heq2916
  have he2957 : F2953 q2917 = .inl (I (.object "java/lang/Object"), n2924, .inr (.inr (.inr (.inr f2923)))) := (n2955 q2917 (rn_ao heq2917 heq2915)).trans heq2917
  have he2958 : F2953 y2925 = .inr (4, [.int p2927, .ref (D.2 1002 1), .int p2928]) := (n2955 y2925 (rn_oo hey2925 heq2915 (by decide))).trans hey2925
  have he2959 : F2953 x2926 = .inr (17, [.ref y2925, .ref qo2929, .int p2930, .int p2931]) := (n2955 x2926 (rn_oo hex2926 heq2915 (by decide))).trans hex2926
  have he2960 : F2953 q2915 = .inr (18, [.ref q2916, .ref qo2918, .int p2919, .int z2952]) := e2954
  have hfr2961 : rFr [q2915] P2913 F2914 F2953 := rFr_put (rFr_rf (W := []) (P := P2913) (F := F2914)) n2955
  refine G_aload_n 0 dr_cX13_block_54 rfl ?_
  refine Gp_get 0 hmx2926 he2959 dr_cX13_block_55 (gk_X12 D I) (Nat.le_of_ble_eq_true rfl) wr_9_219 rfl ?_
  refine Gw_callV (As := []) (gV_ok D I) (cp_1471_ArrayList_clear l hl0 D I P2913 F2953 y2925 p2927 p2928 hmy2925 he2958 (gB_w bp2928 (by decide) (by decide)) (by omega)) dr_cX13_block_58 ⟨wr_10_74, wr_1_18, wr_10_77, by decide, rfl, (Nat.le_of_ble_eq_true rfl), (Nat.le_of_ble_eq_true rfl)⟩ wr_10_75 wr_10_76 hmy2925 he2958 rfl (show 0 + 0 ≤ 0 by first | omega | decide) (show 0 + 0 ≤ 0 by first | omega | decide) (Nat.le_of_ble_eq_true rfl) (fun r2965 w2966 dc2962 ds2963 hp2964 => ?_) (fun _ _ _ _ _ z => z.elim)
  obtain ⟨F2968, o2967, rfl, rfl, hfr2970, he2971, hdc, hds⟩ := hp2964
  have he2972 : F2968 q2915 = .inr (18, [.ref q2916, .ref qo2918, .int p2919, .int z2952]) := (hfr2970 q2915 hmq2915 (nm_c (rn_oo he2960 he2958 (by decide)) nm_n)).trans he2960
  have he2973 : F2968 q2916 = .inr (4, [.int p2921, .ref q2917, .int p2922]) := (hfr2970 q2916 hmq2916 (nm_c hneq2916y2925 nm_n)).trans he2956
  have he2974 : F2968 q2917 = .inl (I (.object "java/lang/Object"), n2924, .inr (.inr (.inr (.inr f2923)))) := (hfr2970 q2917 hmq2917 (nm_c (rn_ao he2957 he2958) nm_n)).trans he2957
  have he2975 : F2968 x2926 = .inr (17, [.ref y2925, .ref qo2929, .int p2930, .int p2931]) := (hfr2970 x2926 hmx2926 (nm_c (rn_oo he2959 he2958 (by decide)) nm_n)).trans he2959
  have hfr2976 : rFr [q2915, y2925] P2913 F2914 F2968 := rFr_call (rSub_rf (P := P2913)) hfr2961 hfr2970 (fun b hb hn => ⟨(nm_c (fun e => hn (e ▸ List.mem_cons_self)) nm_n), (nm_c (fun e => hn (e ▸ (List.mem_cons_of_mem _ List.mem_cons_self))) nm_n)⟩)
  have bo2967 := gB_any o2967
  change G _ _ _ _ _ _ _ _ _ _ _
  refine G_widen (cs' := 0) (sl' := 0) (by omega) (by omega) ?_
  refine G_aload_n 0 dr_cX13_block_61 rfl ?_
  exact G_aretA (FieldType.object "SpillForgeModel$Block") dr_cX13_block_62 rfl (by first | exact Or.inl ⟨_, rfl⟩ | exact Or.inr ⟨_, rfl⟩) (Or.inr ⟨_, rfl⟩) (Nat.le_of_ble_eq_true rfl) (Nat.le_of_ble_eq_true rfl) ⟨F2968, z2952, o2967, rfl, rfl, hfr2976, he2972, he2973, he2974, he2975, he2971, (Nat.le_of_ble_eq_true rfl), (Nat.le_of_ble_eq_true rfl), bz2952, (by have qa0 : Int32.toInt 0 = 0 := (by decide); omega)⟩
abbrev ky_3029_Block_init : gKey := (cX12_init, 1, "SpillForgeModel$Block", none, [], "<init>", fun _ _ => True)
def pp_3029_Block_init (D : va_G) (I : FieldType → ClassId) (P3024 : List Nat) (F3025 : Nat → va_E) (q3026 : Nat) (p3027 : Int32) (p3028 : Int32) : Option Value → va_W → Nat → Nat → Prop := fun r w dc ds => ∃ (P3091 : List Nat) (F3092 : Nat → va_E) (q3089 : Nat) (q3090 : Nat), r = none ∧ w = va_pl P3091 F3092 ∧ rSub P3024 P3091 ∧ rFr [q3026] P3024 F3025 F3092 ∧ F3092 q3026 = .inr (17, [.ref q3089, .ref q3090, .int p3027, .int p3028]) ∧ F3092 q3089 = .inr (4, [.int 0, .ref (D.2 1002 1), .int 0]) ∧ F3092 q3090 = .inr (20, [.int 0, .int 0, .int 0, .int 0, .int 0, .int 0, .int 0]) ∧ q3089 ∈ P3091 ∧ q3089 ∉ P3024 ∧ q3090 ∈ P3091 ∧ q3090 ∉ P3024 ∧ dc ≤ 2 ∧ ds ≤ 10
set_option maxRecDepth 100000 in
set_option maxHeartbeats 4000000 in
theorem cp_3029_Block_init (l : Launch) (hl0 : l.stackTraces = false) (D : va_G) (I : FieldType → ClassId) (P3024 : List Nat) (F3025 : Nat → va_E) (q3026 : Nat) (p3027 : Int32) (p3028 : Int32) (hmq3026 : q3026 ∈ P3024) (heq3026 : F3025 q3026 = .inr (17, [.null, .null, .int p3027, .int p3028])) (bp3027 : gB p3027 0 39) (bp3028 : gB p3028 0 39) : CtA (gV D I) l yX12_init cX12_init 1 none 4 72 2 10 [.ref q3026] (va_pl P3024 F3025) (pp_3029_Block_init D I P3024 F3025 q3026 p3027 p3028) gNA := by
  refine CtA_of hl0 (by decide) (Nat.le_of_ble_eq_true rfl) ?_
  refine G_aload_n 0 dr_cX12_init_0 rfl ?_
  refine G_obj dr_cX12_init_1 wr_9_166 wr_1_51 wr_1_52 (Nat.le_of_ble_eq_true rfl) (Nat.le_of_ble_eq_true rfl) ?_
  refine G_aload_n 0 dr_cX12_init_4 rfl ?_
  refine G_new [.int 0, .null, .int 0] dr_cX12_init_5 (gk_Jx4a65c D I) wr_9_167 wr_7_4 wr_1_18 (gfs_Jx4a65c) (show 0 + 1 ≤ 2 by first | omega | decide) (show 0 + 3 ≤ 10 by first | omega | decide) (fun q3030 => Gp_in (fun P3031 F3032 hq3033 hP3034 e3035 n3036 => ?_))
  refine G_widen (cs' := 1) (sl' := 3) (by omega) (by omega) ?_
  have he3037 : F3032 q3026 = .inr (17, [.null, .null, .int p3027, .int p3028]) := (n3036 q3026 (fun h => hq3033 (h ▸ hmq3026))).trans heq3026
  have he3038 : F3032 q3030 = .inr (4, [.int 0, .null, .int 0]) := e3035
  have hm3039 : q3026 ∈ P3031 := (hP3034 q3026).mpr (Or.inl hmq3026)
  have hm3040 : q3030 ∈ P3031 := (hP3034 q3030).mpr (Or.inr rfl)
  have hq3041 : q3030 ∉ P3024 := fun z => hq3033 ((rSub_rf (P := P3024)) q3030 z)
  have hfr3042 : rFr [] P3024 F3025 F3032 := rFr_new (rSub_rf (P := P3024)) hq3033 (rFr_rf (W := []) (P := P3024) (F := F3025)) n3036
  have hsb3043 : rSub P3024 P3031 := rSub_new (rSub_rf (P := P3024)) hP3034
  refine G_dup dr_cX12_init_8 rfl ?_
  refine Gw_callI (As := []) (gV_ok D I) (cp_1606_ArrayList_init l hl0 D I P3031 F3032 q3030 0 0 hm3040 he3038) dr_cX12_init_9 ⟨wr_9_168, wr_1_18, wr_7_7, by decide, rfl, (Nat.le_of_ble_eq_true rfl), (Nat.le_of_ble_eq_true rfl)⟩ wr_7_6 rfl (show 1 + 0 ≤ 2 by first | omega | decide) (show 3 + 0 ≤ 10 by first | omega | decide) (Nat.le_of_ble_eq_true rfl) (fun r3047 w3048 dc3044 ds3045 hp3046 => ?_)
  obtain ⟨F3049, rfl, rfl, hfr3051, he3052, hdc, hds⟩ := hp3046
  have he3053 : F3049 q3026 = .inr (17, [.null, .null, .int p3027, .int p3028]) := (hfr3051 q3026 hm3039 (nm_c (fun h => hq3041 (h ▸ hmq3026)) nm_n)).trans he3037
  have hfr3054 : rFr [] P3024 F3025 F3049 := rFr_call hsb3043 hfr3042 hfr3051 (fun b hb hn => ⟨nm_n, (nm_c (fun e => hq3041 (e ▸ hb)) nm_n)⟩)
  change G _ _ _ _ _ _ _ _ _ _ _
  refine G_widen (cs' := 1) (sl' := 3) (by omega) (by omega) ?_
  refine Gp_putF 0 hm3039 he3053 dr_cX12_init_12 (gk_X12 D I) (Nat.le_of_ble_eq_true rfl) wr_9_218 rfl rfl rfl rfl rfl (Nat.le_of_ble_eq_true rfl) (fun F3055 e3056 n3057 => ?_)
  have he3058 : F3055 q3030 = .inr (4, [.int 0, .ref (D.2 1002 1), .int 0]) := (n3057 q3030 (fun h => hq3041 (h ▸ hmq3026))).trans he3052
  have he3059 : F3055 q3026 = .inr (17, [.ref q3030, .null, .int p3027, .int p3028]) := e3056
  have hfr3060 : rFr [q3026] P3024 F3025 F3055 := rFr_put hfr3054 n3057
  refine G_aload_n 0 dr_cX12_init_15 rfl ?_
  refine G_new [.int 0, .int 0, .int 0, .int 0, .int 0, .int 0, .int 0] dr_cX12_init_16 (gk_X15 D I) wr_9_169 wr_9_170 wr_1_39 (gfs_X15) (show 1 + 1 ≤ 2 by first | omega | decide) (show 3 + 7 ≤ 10 by first | omega | decide) (fun q3061 => Gp_in (fun P3062 F3063 hq3064 hP3065 e3066 n3067 => ?_))
  refine G_widen (cs' := 2) (sl' := 10) (by omega) (by omega) ?_
  have he3068 : F3063 q3026 = .inr (17, [.ref q3030, .null, .int p3027, .int p3028]) := (n3067 q3026 (fun h => hq3064 (h ▸ hm3039))).trans he3059
  have he3069 : F3063 q3030 = .inr (4, [.int 0, .ref (D.2 1002 1), .int 0]) := (n3067 q3030 (fun h => hq3064 (h ▸ hm3040))).trans he3058
  have he3070 : F3063 q3061 = .inr (20, [.int 0, .int 0, .int 0, .int 0, .int 0, .int 0, .int 0]) := e3066
  have hm3071 : q3026 ∈ P3062 := (hP3065 q3026).mpr (Or.inl hm3039)
  have hm3072 : q3030 ∈ P3062 := (hP3065 q3030).mpr (Or.inl hm3040)
  have hm3073 : q3061 ∈ P3062 := (hP3065 q3061).mpr (Or.inr rfl)
  have hq3074 : q3061 ∉ P3024 := fun z => hq3064 (hsb3043 q3061 z)
  have hfr3075 : rFr [q3026] P3024 F3025 F3063 := rFr_new hsb3043 hq3064 hfr3060 n3067
  have hsb3076 : rSub P3024 P3062 := rSub_new hsb3043 hP3065
  refine G_dup dr_cX12_init_19 rfl ?_
  refine Gw_callIN (As := []) (gV_ok D I) (cp_2427_Row_init l hl0 D I P3062 F3063 q3061 0 0 0 0 0 0 0 hm3073 he3070 (gB_w (gBl (show Int32.toInt 0 = 0 by decide)) (by decide) (by decide)) (gB_w (gBl (show Int32.toInt 0 = 0 by decide)) (by decide) (by decide)) (gB_w (gBl (show Int32.toInt 0 = 0 by decide)) (by decide) (by decide)) (gB_w (gBl (show Int32.toInt 0 = 0 by decide)) (by decide) (by decide)) (gB_w (gBl (show Int32.toInt 0 = 0 by decide)) (by decide) (by decide))) dr_cX12_init_20 ⟨(fun _ _ _ h => gn_w 79 rfl h), wr_1_39, wr_9_173, by decide, rfl, (Nat.le_of_ble_eq_true rfl), (Nat.le_of_ble_eq_true rfl)⟩ wr_9_172 rfl (show 2 + 0 ≤ 2 by first | omega | decide) (show 10 + 0 ≤ 10 by first | omega | decide) (Nat.le_of_ble_eq_true rfl) (fun r3080 w3081 dc3077 ds3078 hp3079 => ?_)
  obtain ⟨rfl, rfl, hdc, hds⟩ := hp3079
  change G _ _ _ _ _ _ _ _ _ _ _
  refine G_widen (cs' := 2) (sl' := 10) (by omega) (by omega) ?_
  refine Gp_putF 1 hm3071 he3068 dr_cX12_init_23 (gk_X12 D I) (Nat.le_of_ble_eq_true rfl) wr_9_222 rfl rfl rfl rfl rfl (Nat.le_of_ble_eq_true rfl) (fun F3082 e3083 n3084 => ?_)
  have he3085 : F3082 q3030 = .inr (4, [.int 0, .ref (D.2 1002 1), .int 0]) := (n3084 q3030 (fun h => hq3041 (h ▸ hmq3026))).trans he3069
  have he3086 : F3082 q3061 = .inr (20, [.int 0, .int 0, .int 0, .int 0, .int 0, .int 0, .int 0]) := (n3084 q3061 (fun h => hq3074 (h ▸ hmq3026))).trans he3070
  have he3087 : F3082 q3026 = .inr (17, [.ref q3030, .ref q3061, .int p3027, .int p3028]) := e3083
  have hfr3088 : rFr [q3026] P3024 F3025 F3082 := rFr_put' List.mem_cons_self hfr3075 n3084
  exact G_vretA dr_cX12_init_26 rfl (Nat.le_of_ble_eq_true rfl) (Nat.le_of_ble_eq_true rfl) ⟨P3062, F3082, q3030, q3061, rfl, rfl, hsb3076, hfr3088, he3087, he3085, he3086, hm3072, hq3041, hm3073, hq3074, (Nat.le_of_ble_eq_true rfl), (Nat.le_of_ble_eq_true rfl)⟩
abbrev ky_3185_ArrayList_add : gKey := (cJx4a65c_add_72be8, 4, "java/util/ArrayList", none, [], "add", fun _ _ => True)
def pp_3185_ArrayList_add (D : va_G) (I : FieldType → ClassId) (P3158 : List Nat) (F3159 : Nat → va_E) (q3160 : Nat) (q3161 : Nat) (q3162 : Nat) (q3163 : Nat) (q3164 : Nat) (p3165 : Int32) (p3166 : Int32) (p3167 : Int32) (p3168 : Int32) (p3169 : Int32) (f3170 : Nat → Option Nat) (n3171 : Nat) (p3172 : Int32) (p3173 : Int32) (p3174 : Int32) (p3175 : Int32) (p3176 : Int32) (p3177 : Int32) (p3178 : Int32) (p3179 : Int32) (p3180 : Int32) : Option Value → va_W → Nat → Nat → Prop := fun r w dc ds => ∃ (F3213 : Nat → va_E) (o3210 : Int32) (f3211 : Nat → Option Nat), r = none ∧ w = va_pl P3158 F3213 ∧ rFr [q3160, q3162] P3158 F3159 F3213 ∧ F3213 q3160 = .inr (4, [.int p3166, .ref q3162, .int o3210]) ∧ F3213 q3161 = .inr (17, [.ref q3163, .ref q3164, .int p3168, .int p3169]) ∧ F3213 q3162 = .inl (I (.object "java/lang/Object"), n3171, .inr (.inr (.inr (.inr f3211)))) ∧ F3213 q3163 = .inr (4, [.int p3172, .ref (D.2 1002 1), .int p3173]) ∧ F3213 q3164 = .inr (20, [.int p3174, .int p3175, .int p3176, .int p3177, .int p3178, .int p3179, .int p3180]) ∧ dc ≤ 0 ∧ ds ≤ 0 ∧ gB o3210 1 16777217 ∧ o3210.toInt = p3167.toInt + 1 ∧ ((∀ j : Nat, (j : Int) < p3167.toInt → f3211 j = f3170 j) ∧ f3211 p3165.toInt.toNat = some q3161) ∧ rSrcX f3211 f3170 q3161
set_option maxRecDepth 100000 in
set_option maxHeartbeats 4000000 in
theorem cp_3185_ArrayList_add (l : Launch) (hl0 : l.stackTraces = false) (D : va_G) (I : FieldType → ClassId) (P3158 : List Nat) (F3159 : Nat → va_E) (q3160 : Nat) (q3161 : Nat) (q3162 : Nat) (q3163 : Nat) (q3164 : Nat) (p3165 : Int32) (p3166 : Int32) (p3167 : Int32) (p3168 : Int32) (p3169 : Int32) (f3170 : Nat → Option Nat) (n3171 : Nat) (p3172 : Int32) (p3173 : Int32) (p3174 : Int32) (p3175 : Int32) (p3176 : Int32) (p3177 : Int32) (p3178 : Int32) (p3179 : Int32) (p3180 : Int32) (hmq3160 : q3160 ∈ P3158) (hmq3161 : q3161 ∈ P3158) (hmq3162 : q3162 ∈ P3158) (hmq3163 : q3163 ∈ P3158) (hmq3164 : q3164 ∈ P3158) (heq3160 : F3159 q3160 = .inr (4, [.int p3166, .ref q3162, .int p3167])) (heq3161 : F3159 q3161 = .inr (17, [.ref q3163, .ref q3164, .int p3168, .int p3169])) (heq3162 : F3159 q3162 = .inl (I (.object "java/lang/Object"), n3171, .inr (.inr (.inr (.inr f3170))))) (heq3163 : F3159 q3163 = .inr (4, [.int p3172, .ref (D.2 1002 1), .int p3173])) (heq3164 : F3159 q3164 = .inr (20, [.int p3174, .int p3175, .int p3176, .int p3177, .int p3178, .int p3179, .int p3180])) (hneq3160q3163 : q3160 ≠ q3163) (bp3165 : gB p3165 0 16777216) (bp3167 : gB p3167 0 16777216) (bp3168 : gB p3168 0 39) (bp3169 : gB p3169 0 39) (bp3173 : gB p3173 0 16777216) (bp3174 : gB p3174 0 32) (bp3175 : gB p3175 0 1999) (bp3178 : gB p3178 0 1999) (bp3179 : gB p3179 0 1) (bp3180 : gB p3180 0 1) (x3181 : p3167.toInt < (n3171 : Int)) (x3182 : p3165.toInt = p3167.toInt) (x3183 : rEl P3158 F3159 f3170) (x3184 : ((n3171 : Int) ≤ 16777216)) : CtA (gV D I) l yJx4a65c_add_72be8 cJx4a65c_add_72be8 4 none 0 0 0 0 [.ref q3160, .ref q3161, .ref q3162, .int p3165] (va_pl P3158 F3159) (pp_3185_ArrayList_add D I P3158 F3159 q3160 q3161 q3162 q3163 q3164 p3165 p3166 p3167 p3168 p3169 f3170 n3171 p3172 p3173 p3174 p3175 p3176 p3177 p3178 p3179 p3180) gNA := by
  refine CtA_ofF hl0 (by decide +kernel) (Nat.le_of_ble_eq_true rfl) ?_
  have bp3166 := gB_any p3166
  have bp3172 := gB_any p3172
  have bp3176 := gB_any p3176
  have bp3177 := gB_any p3177
  refine G_iload_n 3 dr_cJx4a65c_add_72be8_0 rfl ?_
  refine G_aload_n 2 dr_cJx4a65c_add_72be8_1 rfl ?_
  refine Gp_alen (Int32.ofNat n3171) 4 hmq3162 heq3162 dr_cJx4a65c_add_72be8_2 rfl rfl (G_nam fun z3186 hz3186 => ?_)
  have ez3186 : z3186.toInt = (n3171 : Nat) := gI_ofM hz3186 (by omega)
  have bz3186 : gB z3186 0 16777216 := ⟨by omega, by omega⟩
  refine G_icmp_ne 11 dr_cJx4a65c_add_72be8_3 (by decide +kernel) (fun hc3187 => ?_) (fun hc => absurd (show False by have := gC_eq hc; omega) not_false)
  have r3189 : p3165.toInt ≠ z3186.toInt := gC_ne hc3187
  refine G_aload_n 2 dr_cJx4a65c_add_72be8_11 rfl ?_
  refine G_iload_n 3 dr_cJx4a65c_add_72be8_12 rfl ?_
  refine G_aload_n 1 dr_cJx4a65c_add_72be8_13 rfl ?_
  refine Gp_aast 4 hmq3162 heq3162 dr_cJx4a65c_add_72be8_14 rfl ⟨hmq3161, _, _, _, _, _, heq3161, rfl, gr_cast 2 rfl⟩ (gB_inr (by omega) (by omega)) (fun F3190 e3191 n3192 => ?_)
  obtain ⟨f3193, hf3193⟩ : ∃ z, z = va_up f3170 p3165.toNatClampNeg (some q3161) := ⟨_, rfl⟩
  rw [← hf3193] at e3191
  have he3194 : F3190 q3160 = .inr (4, [.int p3166, .ref q3162, .int p3167]) := (n3192 q3160 (rn_oa heq3160 heq3162)).trans heq3160
  have he3195 : F3190 q3161 = .inr (17, [.ref q3163, .ref q3164, .int p3168, .int p3169]) := (n3192 q3161 (rn_oa heq3161 heq3162)).trans heq3161
  have he3196 : F3190 q3163 = .inr (4, [.int p3172, .ref (D.2 1002 1), .int p3173]) := (n3192 q3163 (rn_oa heq3163 heq3162)).trans heq3163
  have he3197 : F3190 q3164 = .inr (20, [.int p3174, .int p3175, .int p3176, .int p3177, .int p3178, .int p3179, .int p3180]) := (n3192 q3164 (rn_oa heq3164 heq3162)).trans heq3164
  have he3198 : F3190 q3162 = .inl (I (.object "java/lang/Object"), n3171, .inr (.inr (.inr (.inr f3193)))) := e3191
  have hfr3199 : rFr [q3162] P3158 F3159 F3190 := rFr_put (rFr_rf (W := []) (P := P3158) (F := F3159)) n3192
  refine G_aload_n 0 dr_cJx4a65c_add_72be8_15 rfl ?_
  refine G_iload_n 3 dr_cJx4a65c_add_72be8_16 rfl ?_
  refine G_iconst 1 dr_cJx4a65c_add_72be8_17 (by decide +kernel) ?_
  refine G_iadd dr_cJx4a65c_add_72be8_18 (G_nam fun z3200 hz3200 => ?_)
  have ez3200 : z3200.toInt = p3165.toInt + 1 := by rw [gI_add hz3200 bp3165 (gBl (show Int32.toInt 1 = 1 by decide)) (by decide) (by decide), show Int32.toInt 1 = 1 from by decide]
  have bz3200 : gB z3200 1 16777217 := gB_add (gI_add hz3200 bp3165 (gBl (show Int32.toInt 1 = 1 by decide)) (by decide) (by decide)) bp3165 (gBl (show Int32.toInt 1 = 1 by decide)) (by decide) (by decide)
  refine Gp_put 2 hmq3160 he3194 dr_cJx4a65c_add_72be8_19 (gk_Jx4a65c D I) (Nat.le_of_ble_eq_true rfl) wr_7_18 rfl rfl rfl (Nat.le_of_ble_eq_true rfl) (fun F3201 e3202 n3203 => ?_)
  have he3204 : F3201 q3161 = .inr (17, [.ref q3163, .ref q3164, .int p3168, .int p3169]) := (n3203 q3161 (rn_oo he3195 he3194 (by decide))).trans he3195
  have he3205 : F3201 q3162 = .inl (I (.object "java/lang/Object"), n3171, .inr (.inr (.inr (.inr f3193)))) := (n3203 q3162 (rn_ao he3198 he3194)).trans he3198
  have he3206 : F3201 q3163 = .inr (4, [.int p3172, .ref (D.2 1002 1), .int p3173]) := (n3203 q3163 (Ne.symm hneq3160q3163)).trans he3196
  have he3207 : F3201 q3164 = .inr (20, [.int p3174, .int p3175, .int p3176, .int p3177, .int p3178, .int p3179, .int p3180]) := (n3203 q3164 (rn_oo he3197 he3194 (by decide))).trans he3197
  have he3208 : F3201 q3160 = .inr (4, [.int p3166, .ref q3162, .int z3200]) := e3202
  have hfr3209 : rFr [q3160, q3162] P3158 F3159 F3201 := rFr_put hfr3199 n3203
  exact G_vretA dr_cJx4a65c_add_72be8_22 rfl (Nat.le_of_ble_eq_true rfl) (Nat.le_of_ble_eq_true rfl) ⟨F3201, z3200, f3193, rfl, rfl, hfr3209, he3208, he3204, he3205, he3206, he3207, (Nat.le_of_ble_eq_true rfl), (Nat.le_of_ble_eq_true rfl), bz3200, (by omega), (rI_add (fun _ _ => rfl) hf3193 (by omega) (by omega)), (rSrcX_up hf3193 rSrc_rf)⟩
abbrev ky_3147_ArrayList_add : gKey := (cJx4a65c_add_9ea2d, 2, "java/util/ArrayList", (some FieldType.boolean), [], "add", fun _ _ => True)
def pp_3147_ArrayList_add (D : va_G) (I : FieldType → ClassId) (P3122 : List Nat) (F3123 : Nat → va_E) (q3124 : Nat) (q3125 : Nat) (q3126 : Nat) (q3127 : Nat) (q3128 : Nat) (p3129 : Int32) (p3130 : Int32) (p3131 : Int32) (p3132 : Int32) (f3133 : Nat → Option Nat) (n3134 : Nat) (p3135 : Int32) (p3136 : Int32) (p3137 : Int32) (p3138 : Int32) (p3139 : Int32) (p3140 : Int32) (p3141 : Int32) (p3142 : Int32) (p3143 : Int32) : Option Value → va_W → Nat → Nat → Prop := fun r w dc ds => ∃ (F3237 : Nat → va_E) (o3233 : Int32) (o3234 : Int32) (f3235 : Nat → Option Nat), r = some (.int 1) ∧ w = va_pl P3122 F3237 ∧ rFr [q3124, q3126] P3122 F3123 F3237 ∧ F3237 q3124 = .inr (4, [.int o3233, .ref q3126, .int o3234]) ∧ F3237 q3125 = .inr (17, [.ref q3127, .ref q3128, .int p3131, .int p3132]) ∧ F3237 q3126 = .inl (I (.object "java/lang/Object"), n3134, .inr (.inr (.inr (.inr f3235)))) ∧ F3237 q3127 = .inr (4, [.int p3135, .ref (D.2 1002 1), .int p3136]) ∧ F3237 q3128 = .inr (20, [.int p3137, .int p3138, .int p3139, .int p3140, .int p3141, .int p3142, .int p3143]) ∧ dc ≤ 0 ∧ ds ≤ 0 ∧ gB o3234 1 16777217 ∧ o3234.toInt = p3130.toInt + 1 ∧ ((∀ j : Nat, (j : Int) < p3130.toInt → f3235 j = f3133 j) ∧ f3235 p3130.toInt.toNat = some q3125) ∧ rSrcX f3235 f3133 q3125
set_option maxRecDepth 100000 in
set_option maxHeartbeats 4000000 in
theorem cp_3147_ArrayList_add (l : Launch) (hl0 : l.stackTraces = false) (D : va_G) (I : FieldType → ClassId) (P3122 : List Nat) (F3123 : Nat → va_E) (q3124 : Nat) (q3125 : Nat) (q3126 : Nat) (q3127 : Nat) (q3128 : Nat) (p3129 : Int32) (p3130 : Int32) (p3131 : Int32) (p3132 : Int32) (f3133 : Nat → Option Nat) (n3134 : Nat) (p3135 : Int32) (p3136 : Int32) (p3137 : Int32) (p3138 : Int32) (p3139 : Int32) (p3140 : Int32) (p3141 : Int32) (p3142 : Int32) (p3143 : Int32) (hmq3124 : q3124 ∈ P3122) (hmq3125 : q3125 ∈ P3122) (hmq3126 : q3126 ∈ P3122) (hmq3127 : q3127 ∈ P3122) (hmq3128 : q3128 ∈ P3122) (heq3124 : F3123 q3124 = .inr (4, [.int p3129, .ref q3126, .int p3130])) (heq3125 : F3123 q3125 = .inr (17, [.ref q3127, .ref q3128, .int p3131, .int p3132])) (heq3126 : F3123 q3126 = .inl (I (.object "java/lang/Object"), n3134, .inr (.inr (.inr (.inr f3133))))) (heq3127 : F3123 q3127 = .inr (4, [.int p3135, .ref (D.2 1002 1), .int p3136])) (heq3128 : F3123 q3128 = .inr (20, [.int p3137, .int p3138, .int p3139, .int p3140, .int p3141, .int p3142, .int p3143])) (hneq3124q3127 : q3124 ≠ q3127) (bp3130 : gB p3130 0 16777216) (bp3131 : gB p3131 0 39) (bp3132 : gB p3132 0 39) (bp3136 : gB p3136 0 16777216) (bp3137 : gB p3137 0 32) (bp3138 : gB p3138 0 1999) (bp3141 : gB p3141 0 1999) (bp3142 : gB p3142 0 1) (bp3143 : gB p3143 0 1) (x3144 : p3130.toInt < (n3134 : Int)) (x3145 : rEl P3122 F3123 f3133) (x3146 : ((n3134 : Int) ≤ 16777216)) : CtA (gV D I) l yJx4a65c_add_9ea2d cJx4a65c_add_9ea2d 2 (some FieldType.boolean) 1 23 0 0 [.ref q3124, .ref q3125] (va_pl P3122 F3123) (pp_3147_ArrayList_add D I P3122 F3123 q3124 q3125 q3126 q3127 q3128 p3129 p3130 p3131 p3132 f3133 n3134 p3135 p3136 p3137 p3138 p3139 p3140 p3141 p3142 p3143) gNA := by
  refine CtA_ofF hl0 (by decide +kernel) (Nat.le_of_ble_eq_true rfl) ?_
  have bp3129 := gB_any p3129
  have bp3135 := gB_any p3135
  have bp3139 := gB_any p3139
  have bp3140 := gB_any p3140
  refine G_aload_n 0 dr_cJx4a65c_add_9ea2d_0 rfl ?_
  refine G_dup dr_cJx4a65c_add_9ea2d_1 rfl ?_
  refine Gp_getS 0 hmq3124 heq3124 dr_cJx4a65c_add_9ea2d_2 (gk_Jx4a65c D I) (Nat.le_of_ble_eq_true rfl) wr_7_20 wr_7_21 rfl ?_
  refine G_iconst 1 dr_cJx4a65c_add_9ea2d_5 (by decide +kernel) ?_
  refine G_iadd dr_cJx4a65c_add_9ea2d_6 (G_nam fun z3148 hz3148 => ?_)
  have bz3148 : gB z3148 (-2147483648) 2147483647 := gB_any z3148
  refine Gp_putS 0 hmq3124 heq3124 dr_cJx4a65c_add_9ea2d_7 (gk_Jx4a65c D I) (Nat.le_of_ble_eq_true rfl) wr_7_20 wr_7_21 rfl rfl rfl (Nat.le_of_ble_eq_true rfl) (fun F3149 e3150 n3151 => ?_)
  have he3152 : F3149 q3125 = .inr (17, [.ref q3127, .ref q3128, .int p3131, .int p3132]) := (n3151 q3125 (rn_oo heq3125 heq3124 (by decide))).trans heq3125
  have he3153 : F3149 q3126 = .inl (I (.object "java/lang/Object"), n3134, .inr (.inr (.inr (.inr f3133)))) := (n3151 q3126 (rn_ao heq3126 heq3124)).trans heq3126
  have he3154 : F3149 q3127 = .inr (4, [.int p3135, .ref (D.2 1002 1), .int p3136]) := (n3151 q3127 (Ne.symm hneq3124q3127)).trans heq3127
  have he3155 : F3149 q3128 = .inr (20, [.int p3137, .int p3138, .int p3139, .int p3140, .int p3141, .int p3142, .int p3143]) := (n3151 q3128 (rn_oo heq3128 heq3124 (by decide))).trans heq3128
  have he3156 : F3149 q3124 = .inr (4, [.int z3148, .ref q3126, .int p3130]) := e3150
  have hfr3157 : rFr [q3124] P3122 F3123 F3149 := rFr_put (rFr_rf (W := []) (P := P3122) (F := F3123)) n3151
  refine G_aload_n 0 dr_cJx4a65c_add_9ea2d_10 rfl ?_
  refine G_aload_n 1 dr_cJx4a65c_add_9ea2d_11 rfl ?_
  refine G_aload_n 0 dr_cJx4a65c_add_9ea2d_12 rfl ?_
  refine Gp_get 1 hmq3124 he3156 dr_cJx4a65c_add_9ea2d_13 (gk_Jx4a65c D I) (Nat.le_of_ble_eq_true rfl) wr_7_17 rfl ?_
  refine G_aload_n 0 dr_cJx4a65c_add_9ea2d_16 rfl ?_
  refine Gp_get 2 hmq3124 he3156 dr_cJx4a65c_add_9ea2d_17 (gk_Jx4a65c D I) (Nat.le_of_ble_eq_true rfl) wr_7_18 rfl ?_
  refine Gw_callV (As := [.ref q3125, .ref q3126, .int p3130]) (gV_ok D I) (cp_3185_ArrayList_add l hl0 D I P3122 F3149 q3124 q3125 q3126 q3127 q3128 p3130 z3148 p3130 p3131 p3132 f3133 n3134 p3135 p3136 p3137 p3138 p3139 p3140 p3141 p3142 p3143 hmq3124 hmq3125 hmq3126 hmq3127 hmq3128 he3156 he3152 he3153 he3154 he3155 hneq3124q3127 bp3130 bp3130 bp3131 bp3132 bp3136 bp3137 bp3138 bp3141 bp3142 bp3143 (by omega) (by omega) (rEl_frG (rEl_src x3145 rSrc_rf) (rSub_rf (P := P3122)) hfr3157 (rNg_c (rNg_o heq3124 (by decide) (by decide)) rNg_n)) (by omega)) dr_cJx4a65c_add_9ea2d_20 ⟨wr_10_7, wr_1_18, wr_10_10, by decide, rfl, (Nat.le_of_ble_eq_true rfl), (Nat.le_of_ble_eq_true rfl)⟩ wr_10_9 wr_p_85 hmq3124 he3156 rfl (show 0 + 0 ≤ 0 by first | omega | decide) (show 0 + 0 ≤ 0 by first | omega | decide) (Nat.le_of_ble_eq_true rfl) (fun r3217 w3218 dc3214 ds3215 hp3216 => ?_) (fun _ _ _ _ _ z => z.elim)
  obtain ⟨F3224, o3219, f3220, rfl, rfl, hfr3226, he3227, he3228, he3229, he3230, he3231, hdc, hds, bo3219, x3221, x3222, x3223⟩ := hp3216
  have hfr3232 : rFr [q3124, q3126] P3122 F3123 F3224 := rFr_call (rSub_rf (P := P3122)) hfr3157 hfr3226 (fun b hb hn => ⟨(nm_c (fun e => hn (e ▸ List.mem_cons_self)) nm_n), (nm_c (fun e => hn (e ▸ List.mem_cons_self)) (nm_c (fun e => hn (e ▸ (List.mem_cons_of_mem _ List.mem_cons_self))) nm_n))⟩)
  change G _ _ _ _ _ _ _ _ _ _ _
  refine G_widen (cs' := 0) (sl' := 0) (by omega) (by omega) ?_
  refine G_iconst 1 dr_cJx4a65c_add_9ea2d_23 (by decide +kernel) ?_
  exact G_zretA FieldType.boolean dr_cJx4a65c_add_9ea2d_24 rfl rfl (Nat.le_of_ble_eq_true rfl) (Nat.le_of_ble_eq_true rfl) ⟨F3224, z3148, o3219, f3220, rfl, rfl, hfr3232, he3227, he3228, he3229, he3230, he3231, (Nat.le_of_ble_eq_true rfl), (Nat.le_of_ble_eq_true rfl), bo3219, (by omega), (by assumption), (by assumption)⟩
abbrev ky_2997_Code_block : gKey := (cX13_block, 2, "SpillForgeModel$Code", (some (FieldType.object "SpillForgeModel$Block")), [], "block", fun _ _ => True)
def pp_2997_Code_block (D : va_G) (I : FieldType → ClassId) (P2981 : List Nat) (F2982 : Nat → va_E) (q2983 : Nat) (q2984 : Nat) (q2985 : Nat) (qo2986 : Nat) (p2987 : Int32) (p2988 : Int32) (p2989 : Int32) (p2990 : Int32) (f2991 : Nat → Option Nat) (n2992 : Nat) : Option Value → va_W → Nat → Nat → Prop := fun r w dc ds => ∃ (P3301 : List Nat) (F3302 : Nat → va_E) (o3293 : Int32) (q3294 : Nat) (o3295 : Int32) (o3296 : Int32) (q3297 : Nat) (o3298 : Int32) (q3299 : Nat) (f3300 : Nat → Option Nat), r = some (.ref q3294) ∧ w = va_pl P3301 F3302 ∧ rSub P2981 P3301 ∧ rFr [q2983, q2984, q2985] P2981 F2982 F3302 ∧ F3302 q2983 = .inr (18, [.ref q2984, .ref qo2986, .int p2987, .int o3293]) ∧ F3302 q2984 = .inr (4, [.int o3295, .ref q2985, .int o3296]) ∧ F3302 q3294 = .inr (17, [.ref q3297, .ref q3299, .int 0, .int 0]) ∧ F3302 q2985 = .inl (I (.object "java/lang/Object"), n2992, .inr (.inr (.inr (.inr f3300)))) ∧ F3302 q3299 = .inr (20, [.int 0, .int 0, .int 0, .int 0, .int 0, .int 0, .int 0]) ∧ F3302 q3297 = .inr (4, [.int o3298, .ref (D.2 1002 1), .int 0]) ∧ q3294 ∈ P3301 ∧ q3294 ∉ P2981 ∧ q3297 ∈ P3301 ∧ q3297 ∉ P2981 ∧ q3299 ∈ P3301 ∧ q3299 ∉ P2981 ∧ dc ≤ 3 ∧ ds ≤ 14 ∧ gB o3293 1 1000001 ∧ gB o3296 1 16777217 ∧ o3293.toInt = p2988.toInt + 1 ∧ o3296.toInt = p2990.toInt + 1 ∧ ((∀ j : Nat, (j : Int) < p2990.toInt → f3300 j = f2991 j) ∧ f3300 p2990.toInt.toNat = some q3294) ∧ rSrcX f3300 f2991 q3294
set_option maxRecDepth 100000 in
set_option maxHeartbeats 4000000 in
theorem cp_2997_Code_block (l : Launch) (hl0 : l.stackTraces = false) (D : va_G) (I : FieldType → ClassId) (P2981 : List Nat) (F2982 : Nat → va_E) (q2983 : Nat) (q2984 : Nat) (q2985 : Nat) (qo2986 : Nat) (p2987 : Int32) (p2988 : Int32) (p2989 : Int32) (p2990 : Int32) (f2991 : Nat → Option Nat) (n2992 : Nat) (hmq2983 : q2983 ∈ P2981) (hmq2984 : q2984 ∈ P2981) (hmq2985 : q2985 ∈ P2981) (heq2983 : F2982 q2983 = .inr (18, [.ref q2984, .ref qo2986, .int p2987, .int p2988])) (heq2984 : F2982 q2984 = .inr (4, [.int p2989, .ref q2985, .int p2990])) (heq2985 : F2982 q2985 = .inl (I (.object "java/lang/Object"), n2992, .inr (.inr (.inr (.inr f2991))))) (bp2987 : gB p2987 0 1000000) (bp2988 : gB p2988 0 1000000) (bp2990 : gB p2990 0 1000000) (x2993 : p2988.toInt = p2990.toInt) (x2994 : p2990.toInt < (n2992 : Int)) (x2995 : rEl P2981 F2982 f2991) (x2996 : ((n2992 : Int) ≤ 16777216)) : CtA (gV D I) l yX13_block cX13_block 2 (some (FieldType.object "SpillForgeModel$Block")) 5 92 3 14 [.ref q2983] (va_pl P2981 F2982) (pp_2997_Code_block D I P2981 F2982 q2983 q2984 q2985 qo2986 p2987 p2988 p2989 p2990 f2991 n2992) gNA := by
  refine CtA_of hl0 (by decide) (Nat.le_of_ble_eq_true rfl) ?_
  have bp2989 := gB_any p2989
  refine G_aload_n 0 dr_cX13_block_0 rfl ?_
  refine Gp_get 3 hmq2983 heq2983 dr_cX13_block_1 (gk_X13 D I) (Nat.le_of_ble_eq_true rfl) wr_7_33 rfl ?_
  refine G_aload_n 0 dr_cX13_block_4 rfl ?_
  refine Gp_get 0 hmq2983 heq2983 dr_cX13_block_5 (gk_X13 D I) (Nat.le_of_ble_eq_true rfl) wr_7_30 rfl ?_
  refine Gw_callV (As := []) (gV_ok D I) (cp_2299_ArrayList_size l hl0 D I P2981 F2982 q2984 q2985 p2989 p2990 f2991 n2992 hmq2984 hmq2985 heq2984 heq2985 (gB_w bp2990 (by decide) (by decide)) (by omega)) dr_cX13_block_8 ⟨wr_9_157, wr_1_18, wr_9_160, by decide, rfl, (Nat.le_of_ble_eq_true rfl), (Nat.le_of_ble_eq_true rfl)⟩ wr_9_158 wr_9_159 hmq2984 heq2984 rfl (show 0 + 0 ≤ 3 by first | omega | decide) (show 0 + 0 ≤ 14 by first | omega | decide) (Nat.le_of_ble_eq_true rfl) (fun r3001 w3002 dc2998 ds2999 hp3000 => ?_) (fun _ _ _ _ _ z => z.elim)
  obtain ⟨rfl, rfl, hdc, hds⟩ := hp3000
  change G _ _ _ _ _ _ _ (.int p2990 :: _) _ _ _
  refine G_widen (cs' := 0) (sl' := 0) (by omega) (by omega) ?_
  refine G_icmp_ne 29 dr_cX13_block_11 (by decide +kernel) (fun hc => absurd (show False by have := gC_ne hc; omega) not_false) (fun hc3003 => ?_)
  have r3005 : p2988.toInt = p2990.toInt := gC_eq hc3003
  refine G_aload_n 0 dr_cX13_block_14 rfl ?_
  refine Gp_get 0 hmq2983 heq2983 dr_cX13_block_15 (gk_X13 D I) (Nat.le_of_ble_eq_true rfl) wr_7_30 rfl ?_
  refine G_new [.null, .null, .int 0, .int 0] dr_cX13_block_18 (gk_X12 D I) wr_9_161 wr_9_162 wr_1_38 (gfs_X12) (show 0 + 1 ≤ 3 by first | omega | decide) (show 0 + 4 ≤ 14 by first | omega | decide) (fun q3006 => Gp_in (fun P3007 F3008 hq3009 hP3010 e3011 n3012 => ?_))
  refine G_widen (cs' := 1) (sl' := 4) (by omega) (by omega) ?_
  have he3013 : F3008 q2983 = .inr (18, [.ref q2984, .ref qo2986, .int p2987, .int p2988]) := (n3012 q2983 (fun h => hq3009 (h ▸ hmq2983))).trans heq2983
  have he3014 : F3008 q2984 = .inr (4, [.int p2989, .ref q2985, .int p2990]) := (n3012 q2984 (fun h => hq3009 (h ▸ hmq2984))).trans heq2984
  have he3015 : F3008 q2985 = .inl (I (.object "java/lang/Object"), n2992, .inr (.inr (.inr (.inr f2991)))) := (n3012 q2985 (fun h => hq3009 (h ▸ hmq2985))).trans heq2985
  have he3016 : F3008 q3006 = .inr (17, [.null, .null, .int 0, .int 0]) := e3011
  have hm3017 : q2983 ∈ P3007 := (hP3010 q2983).mpr (Or.inl hmq2983)
  have hm3018 : q2984 ∈ P3007 := (hP3010 q2984).mpr (Or.inl hmq2984)
  have hm3019 : q2985 ∈ P3007 := (hP3010 q2985).mpr (Or.inl hmq2985)
  have hm3020 : q3006 ∈ P3007 := (hP3010 q3006).mpr (Or.inr rfl)
  have hq3021 : q3006 ∉ P2981 := fun z => hq3009 ((rSub_rf (P := P2981)) q3006 z)
  have hfr3022 : rFr [] P2981 F2982 F3008 := rFr_new (rSub_rf (P := P2981)) hq3009 (rFr_rf (W := []) (P := P2981) (F := F2982)) n3012
  have hsb3023 : rSub P2981 P3007 := rSub_new (rSub_rf (P := P2981)) hP3010
  refine G_dup dr_cX13_block_21 rfl ?_
  refine Gw_callIN (As := []) (gV_ok D I) (cp_3029_Block_init l hl0 D I P3007 F3008 q3006 0 0 hm3020 he3016 (gB_w (gBl (show Int32.toInt 0 = 0 by decide)) (by decide) (by decide)) (gB_w (gBl (show Int32.toInt 0 = 0 by decide)) (by decide) (by decide))) dr_cX13_block_22 ⟨(fun _ _ _ h => gn_w 78 rfl h), wr_1_38, wr_9_165, by decide, rfl, (Nat.le_of_ble_eq_true rfl), (Nat.le_of_ble_eq_true rfl)⟩ wr_9_164 rfl (show 1 + 2 ≤ 3 by first | omega | decide) (show 4 + 10 ≤ 14 by first | omega | decide) (Nat.le_of_ble_eq_true rfl) (fun r3096 w3097 dc3093 ds3094 hp3095 => ?_)
  obtain ⟨P3100, F3101, q3098, q3099, rfl, rfl, hsb3102, hfr3103, he3104, he3105, he3106, hm3107, hq3108, hm3109, hq3110, hdc, hds⟩ := hp3095
  have hm3111 : q2983 ∈ P3100 := hsb3102 q2983 hm3017
  have hm3112 : q2984 ∈ P3100 := hsb3102 q2984 hm3018
  have hm3113 : q2985 ∈ P3100 := hsb3102 q2985 hm3019
  have hm3114 : q3006 ∈ P3100 := hsb3102 q3006 hm3020
  have hq3115 : q3098 ∉ P2981 := fun z => hq3108 (hsb3023 q3098 z)
  have hq3116 : q3099 ∉ P2981 := fun z => hq3110 (hsb3023 q3099 z)
  have hsb3117 : rSub P2981 P3100 := rSub_tr hsb3023 hsb3102
  have he3118 : F3101 q2983 = .inr (18, [.ref q2984, .ref qo2986, .int p2987, .int p2988]) := (hfr3103 q2983 hm3017 (nm_c (fun h => hq3021 (h ▸ hmq2983)) nm_n)).trans he3013
  have he3119 : F3101 q2984 = .inr (4, [.int p2989, .ref q2985, .int p2990]) := (hfr3103 q2984 hm3018 (nm_c (fun h => hq3021 (h ▸ hmq2984)) nm_n)).trans he3014
  have he3120 : F3101 q2985 = .inl (I (.object "java/lang/Object"), n2992, .inr (.inr (.inr (.inr f2991)))) := (hfr3103 q2985 hm3019 (nm_c (fun h => hq3021 (h ▸ hmq2985)) nm_n)).trans he3015
  have hfr3121 : rFr [] P2981 F2982 F3101 := rFr_call hsb3023 hfr3022 hfr3103 (fun b hb hn => ⟨nm_n, (nm_c (fun e => hq3021 (e ▸ hb)) nm_n)⟩)
  change G _ _ _ _ _ _ _ _ _ _ _
  refine G_widen (cs' := 3) (sl' := 14) (by omega) (by omega) ?_
  refine Gw_callV (As := [.ref q3006]) (gV_ok D I) (cp_3147_ArrayList_add l hl0 D I P3100 F3101 q2984 q3006 q2985 q3098 q3099 p2989 p2990 0 0 f2991 n2992 0 0 0 0 0 0 0 0 0 hm3112 hm3114 hm3113 hm3107 hm3109 he3119 he3104 he3120 he3105 he3106 (fun h => hq3115 (h ▸ hmq2984)) (gB_w bp2990 (by decide) (by decide)) (gB_w (gBl (show Int32.toInt 0 = 0 by decide)) (by decide) (by decide)) (gB_w (gBl (show Int32.toInt 0 = 0 by decide)) (by decide) (by decide)) (gB_w (gBl (show Int32.toInt 0 = 0 by decide)) (by decide) (by decide)) (gB_w (gBl (show Int32.toInt 0 = 0 by decide)) (by decide) (by decide)) (gB_w (gBl (show Int32.toInt 0 = 0 by decide)) (by decide) (by decide)) (gB_w (gBl (show Int32.toInt 0 = 0 by decide)) (by decide) (by decide)) (gB_w (gBl (show Int32.toInt 0 = 0 by decide)) (by decide) (by decide)) (gB_w (gBl (show Int32.toInt 0 = 0 by decide)) (by decide) (by decide)) (by have qa0 : Int32.toInt 0 = 0 := (by decide); omega) (rEl_frG (rEl_src x2995 rSrc_rf) hsb3117 hfr3121 rNg_n) (by have qa0 : Int32.toInt 0 = 0 := (by decide); omega)) dr_cX13_block_25 ⟨wr_10_3, wr_1_18, wr_10_6, by decide, rfl, (Nat.le_of_ble_eq_true rfl), (Nat.le_of_ble_eq_true rfl)⟩ wr_10_4 wr_10_5 hm3112 he3119 rfl (show 3 + 0 ≤ 3 by first | omega | decide) (show 14 + 0 ≤ 14 by first | omega | decide) (Nat.le_of_ble_eq_true rfl) (fun r3241 w3242 dc3238 ds3239 hp3240 => ?_) (fun _ _ _ _ _ z => z.elim)
  obtain ⟨F3249, o3243, o3244, f3245, rfl, rfl, hfr3251, he3252, he3253, he3254, he3255, he3256, hdc, hds, bo3244, x3246, x3247, x3248⟩ := hp3240
  have he3257 : F3249 q2983 = .inr (18, [.ref q2984, .ref qo2986, .int p2987, .int p2988]) := (hfr3251 q2983 hm3111 (nm_c (rn_oo he3118 he3119 (by decide)) (nm_c (rn_oa he3118 he3120) nm_n))).trans he3118
  have hfr3258 : rFr [q2984, q2985] P2981 F2982 F3249 := rFr_call hsb3117 hfr3121 hfr3251 (fun b hb hn => ⟨nm_n, (nm_c (fun e => hn (e ▸ List.mem_cons_self)) (nm_c (fun e => hn (e ▸ (List.mem_cons_of_mem _ List.mem_cons_self))) nm_n))⟩)
  have bo3243 := gB_any o3243
  change G _ _ _ _ _ _ _ (.int 1 :: _) _ _ _
  refine G_widen (cs' := 3) (sl' := 14) (by omega) (by omega) ?_
  have hx3259 : f3245 p2988.toNatClampNeg = some q3006 := by show f3245 p2988.toInt.toNat = _; rw [show p2988.toInt = p2990.toInt by omega]; exact x3247.2
  refine G_pop dr_cX13_block_28 rfl ?_
  refine G_aload_n 0 dr_cX13_block_29 rfl ?_
  refine Gp_get 0 hm3111 he3257 dr_cX13_block_30 (gk_X13 D I) (Nat.le_of_ble_eq_true rfl) wr_7_30 rfl ?_
  refine G_aload_n 0 dr_cX13_block_33 rfl ?_
  refine Gp_get 3 hm3111 he3257 dr_cX13_block_34 (gk_X13 D I) (Nat.le_of_ble_eq_true rfl) wr_7_33 rfl ?_
  refine Gw_callV (As := [.int p2988]) (gV_ok D I) (cp_22_ArrayList_get l hl0 D I P3100 F3249 q2984 q2985 p2988 o3243 o3244 f3245 n2992 q3006 hm3112 hm3113 he3252 he3254 (gB_w bp2988 (by decide) (by decide)) ⟨by omega, by omega⟩ (by have qa0 : Int32.toInt 0 = 0 := (by decide); omega) (by have qa0 : Int32.toInt 0 = 0 := (by decide); omega) (by assumption) (by have qa0 : Int32.toInt 0 = 0 := (by decide); omega)) dr_cX13_block_37 ⟨wr_10_62, wr_1_18, wr_10_65, by decide, rfl, (Nat.le_of_ble_eq_true rfl), (Nat.le_of_ble_eq_true rfl)⟩ wr_10_63 wr_10_64 hm3112 he3252 rfl (show 3 + 0 ≤ 3 by first | omega | decide) (show 14 + 0 ≤ 14 by first | omega | decide) (Nat.le_of_ble_eq_true rfl) (fun r3263 w3264 dc3260 ds3261 hp3262 => ?_) (fun _ _ _ _ _ z => z.elim)
  obtain ⟨rfl, rfl, hdc, hds, ht3265⟩ := hp3262
  change G _ _ _ _ _ _ _ (.ref q3006 :: _) _ _ _
  refine G_widen (cs' := 3) (sl' := 14) (by omega) (by omega) ?_
  refine Gp_cast hm3114 he3253 rfl dr_cX13_block_40 wr_9_161 (gr_cast 0 rfl) ?_
  refine G_astore_n (L' := [(1, .ref q3006), (0, .ref q2983)]) dr_cX13_block_43 (Nat.le_of_ble_eq_true rfl) rfl ?_
  refine G_aload_n 1 dr_cX13_block_44 rfl ?_
  refine G_dup dr_cX13_block_45 rfl ?_
  refine Gp_get 3 hm3111 he3257 dr_cX13_block_46 (gk_X13 D I) (Nat.le_of_ble_eq_true rfl) wr_7_33 rfl ?_
  refine G_iconst 1 dr_cX13_block_49 (by decide +kernel) ?_
  refine G_iadd dr_cX13_block_50 (G_nam fun z3266 hz3266 => ?_)
  have ez3266 : z3266.toInt = p2988.toInt + 1 := by rw [gI_add hz3266 bp2988 (gBl (show Int32.toInt 1 = 1 by decide)) (by decide) (by decide), show Int32.toInt 1 = 1 from by decide]
  have bz3266 : gB z3266 1 1000001 := gB_add (gI_add hz3266 bp2988 (gBl (show Int32.toInt 1 = 1 by decide)) (by decide) (by decide)) bp2988 (gBl (show Int32.toInt 1 = 1 by decide)) (by decide) (by decide)
  refine Gp_put 3 hm3111 he3257 dr_cX13_block_51 (gk_X13 D I) (Nat.le_of_ble_eq_true rfl) wr_7_33 rfl rfl rfl (Nat.le_of_ble_eq_true rfl) (fun F3267 e3268 n3269 => ?_)
  have he3270 : F3267 q2984 = .inr (4, [.int o3243, .ref q2985, .int o3244]) := (n3269 q2984 (rn_oo he3252 he3257 (by decide))).trans he3252
  have he3271 : F3267 q3006 = .inr (17, [.ref q3098, .ref q3099, .int 0, .int 0]) := (n3269 q3006 (fun h => hq3021 (h ▸ hmq2983))).trans he3253
  have he3272 : F3267 q2985 = .inl (I (.object "java/lang/Object"), n2992, .inr (.inr (.inr (.inr f3245)))) := (n3269 q2985 (rn_ao he3254 he3257)).trans he3254
  have he3273 : F3267 q3098 = .inr (4, [.int 0, .ref (D.2 1002 1), .int 0]) := (n3269 q3098 (fun h => hq3115 (h ▸ hmq2983))).trans he3255
  have he3274 : F3267 q3099 = .inr (20, [.int 0, .int 0, .int 0, .int 0, .int 0, .int 0, .int 0]) := (n3269 q3099 (fun h => hq3116 (h ▸ hmq2983))).trans he3256
  have he3275 : F3267 q2983 = .inr (18, [.ref q2984, .ref qo2986, .int p2987, .int z3266]) := e3268
  have hfr3276 : rFr [q2983, q2984, q2985] P2981 F2982 F3267 := rFr_put hfr3258 n3269
  refine G_aload_n 0 dr_cX13_block_54 rfl ?_
  refine Gp_get 0 hm3114 he3271 dr_cX13_block_55 (gk_X12 D I) (Nat.le_of_ble_eq_true rfl) wr_9_219 rfl ?_
  refine Gw_callV (As := []) (gV_ok D I) (cp_1471_ArrayList_clear l hl0 D I P3100 F3267 q3098 0 0 hm3107 he3273 (gB_w (gBl (show Int32.toInt 0 = 0 by decide)) (by decide) (by decide)) (by have qa0 : Int32.toInt 0 = 0 := (by decide); omega)) dr_cX13_block_58 ⟨wr_10_74, wr_1_18, wr_10_77, by decide, rfl, (Nat.le_of_ble_eq_true rfl), (Nat.le_of_ble_eq_true rfl)⟩ wr_10_75 wr_10_76 hm3107 he3273 rfl (show 3 + 0 ≤ 3 by first | omega | decide) (show 14 + 0 ≤ 14 by first | omega | decide) (Nat.le_of_ble_eq_true rfl) (fun r3280 w3281 dc3277 ds3278 hp3279 => ?_) (fun _ _ _ _ _ z => z.elim)
  obtain ⟨F3283, o3282, rfl, rfl, hfr3285, he3286, hdc, hds⟩ := hp3279
  have he3287 : F3283 q2983 = .inr (18, [.ref q2984, .ref qo2986, .int p2987, .int z3266]) := (hfr3285 q2983 hm3111 (nm_c (fun h => hq3115 (h ▸ hmq2983)) nm_n)).trans he3275
  have he3288 : F3283 q2984 = .inr (4, [.int o3243, .ref q2985, .int o3244]) := (hfr3285 q2984 hm3112 (nm_c (fun h => hq3115 (h ▸ hmq2984)) nm_n)).trans he3270
  have he3289 : F3283 q3006 = .inr (17, [.ref q3098, .ref q3099, .int 0, .int 0]) := (hfr3285 q3006 hm3114 (nm_c (rn_oo he3271 he3273 (by decide)) nm_n)).trans he3271
  have he3290 : F3283 q2985 = .inl (I (.object "java/lang/Object"), n2992, .inr (.inr (.inr (.inr f3245)))) := (hfr3285 q2985 hm3113 (nm_c (fun h => hq3115 (h ▸ hmq2985)) nm_n)).trans he3272
  have he3291 : F3283 q3099 = .inr (20, [.int 0, .int 0, .int 0, .int 0, .int 0, .int 0, .int 0]) := (hfr3285 q3099 hm3109 (nm_c (rn_oo he3274 he3273 (by decide)) nm_n)).trans he3274
  have hfr3292 : rFr [q2983, q2984, q2985] P2981 F2982 F3283 := rFr_call hsb3117 hfr3276 hfr3285 (fun b hb hn => ⟨(nm_c (fun e => hn (e ▸ List.mem_cons_self)) (nm_c (fun e => hn (e ▸ (List.mem_cons_of_mem _ List.mem_cons_self))) (nm_c (fun e => hn (e ▸ (List.mem_cons_of_mem _ (List.mem_cons_of_mem _ List.mem_cons_self)))) nm_n))), (nm_c (fun e => hq3115 (e ▸ hb)) nm_n)⟩)
  have bo3282 := gB_any o3282
  change G _ _ _ _ _ _ _ _ _ _ _
  refine G_widen (cs' := 3) (sl' := 14) (by omega) (by omega) ?_
  refine G_aload_n 0 dr_cX13_block_61 rfl ?_
  exact G_aretA (FieldType.object "SpillForgeModel$Block") dr_cX13_block_62 rfl (by first | exact Or.inl ⟨_, rfl⟩ | exact Or.inr ⟨_, rfl⟩) (Or.inr ⟨_, rfl⟩) (Nat.le_of_ble_eq_true rfl) (Nat.le_of_ble_eq_true rfl) ⟨P3100, F3283, z3266, q3006, o3243, o3244, q3098, o3282, q3099, f3245, rfl, rfl, hsb3117, hfr3292, he3287, he3288, he3289, he3290, he3291, he3286, hm3114, hq3021, hm3107, hq3115, hm3109, hq3116, (Nat.le_of_ble_eq_true rfl), (Nat.le_of_ble_eq_true rfl), bz3266, bo3244, (by have qa0 : Int32.toInt 0 = 0 := (by decide); omega), (by have qa0 : Int32.toInt 0 = 0 := (by decide); omega), (by assumption), (by assumption)⟩
end
section
abbrev ky_3444_ArrayList_add : gKey := (cJx4a65c_add_72be8, 4, "java/util/ArrayList", none, [], "add", fun _ _ => True)
def pp_3444_ArrayList_add (D : va_G) (I : FieldType → ClassId) (P3415 : List Nat) (F3416 : Nat → va_E) (q3417 : Nat) (q3418 : Nat) (q3419 : Nat) (q3420 : Nat) (q3421 : Nat) (p3422 : Int32) (p3423 : Int32) (p3424 : Int32) (p3425 : Int32) (p3426 : Int32) (f3427 : Nat → Option Nat) (n3428 : Nat) (p3429 : Int32) (p3430 : Int32) (p3431 : Int32) (p3432 : Int32) (p3433 : Int32) (p3434 : Int32) (p3435 : Int32) (p3436 : Int32) (p3437 : Int32) : Option Value → va_W → Nat → Nat → Prop := fun r w dc ds => ∃ (P3506 : List Nat) (F3507 : Nat → va_E) (o3502 : Int32) (q3503 : Nat) (n3504 : Nat) (f3505 : Nat → Option Nat), r = none ∧ w = va_pl P3506 F3507 ∧ rSub P3415 P3506 ∧ rFr [q3417] P3415 F3416 F3507 ∧ F3507 q3418 = .inr (17, [.ref q3420, .ref q3421, .int p3425, .int p3426]) ∧ F3507 q3419 = .inl (I (.object "java/lang/Object"), n3428, .inr (.inr (.inr (.inr f3427)))) ∧ F3507 q3420 = .inr (4, [.int p3429, .ref (D.2 1002 1), .int p3430]) ∧ F3507 q3421 = .inr (20, [.int p3431, .int p3432, .int p3433, .int p3434, .int p3435, .int p3436, .int p3437]) ∧ F3507 q3417 = .inr (4, [.int p3423, .ref q3503, .int o3502]) ∧ F3507 q3503 = .inl (I (.object "java/lang/Object"), n3504, .inr (.inr (.inr (.inr f3505)))) ∧ q3503 ∈ P3506 ∧ q3503 ∉ P3415 ∧ dc ≤ 1 ∧ ds ≤ n3428 + n3428 / 2 + 1 ∧ gB o3502 1 16777217 ∧ o3502.toInt = p3424.toInt + 1 ∧ ((∀ j : Nat, (j : Int) < p3424.toInt → f3505 j = f3427 j) ∧ f3505 p3422.toInt.toNat = some q3418) ∧ rSrcX f3505 f3427 q3418 ∧ ((n3504 : Int) ≤ (n3428 : Int) + (n3428 : Int) / 2 + 1 ∧ (n3428 : Int) + 1 ≤ (n3504 : Int) ∧ (n3428 : Int) + (n3428 : Int) / 2 ≤ (n3504 : Int))
set_option maxRecDepth 100000 in
set_option maxHeartbeats 4000000 in
theorem cp_3444_ArrayList_add (l : Launch) (hl0 : l.stackTraces = false) (D : va_G) (I : FieldType → ClassId) (P3415 : List Nat) (F3416 : Nat → va_E) (q3417 : Nat) (q3418 : Nat) (q3419 : Nat) (q3420 : Nat) (q3421 : Nat) (p3422 : Int32) (p3423 : Int32) (p3424 : Int32) (p3425 : Int32) (p3426 : Int32) (f3427 : Nat → Option Nat) (n3428 : Nat) (p3429 : Int32) (p3430 : Int32) (p3431 : Int32) (p3432 : Int32) (p3433 : Int32) (p3434 : Int32) (p3435 : Int32) (p3436 : Int32) (p3437 : Int32) (hmq3417 : q3417 ∈ P3415) (hmq3418 : q3418 ∈ P3415) (hmq3419 : q3419 ∈ P3415) (hmq3420 : q3420 ∈ P3415) (hmq3421 : q3421 ∈ P3415) (heq3417 : F3416 q3417 = .inr (4, [.int p3423, .ref q3419, .int p3424])) (heq3418 : F3416 q3418 = .inr (17, [.ref q3420, .ref q3421, .int p3425, .int p3426])) (heq3419 : F3416 q3419 = .inl (I (.object "java/lang/Object"), n3428, .inr (.inr (.inr (.inr f3427))))) (heq3420 : F3416 q3420 = .inr (4, [.int p3429, .ref (D.2 1002 1), .int p3430])) (heq3421 : F3416 q3421 = .inr (20, [.int p3431, .int p3432, .int p3433, .int p3434, .int p3435, .int p3436, .int p3437])) (hneq3417q3420 : q3417 ≠ q3420) (bp3422 : gB p3422 0 16777216) (bp3424 : gB p3424 0 16777216) (bp3425 : gB p3425 0 39) (bp3426 : gB p3426 0 39) (bp3430 : gB p3430 0 16777216) (bp3431 : gB p3431 0 32) (bp3432 : gB p3432 0 1999) (bp3435 : gB p3435 0 1999) (bp3436 : gB p3436 0 1) (bp3437 : gB p3437 0 1) (x3438 : 0 < (n3428 : Int)) (x3439 : (n3428 : Int) ≤ 1000000) (x3440 : p3424.toInt = (n3428 : Int)) (x3441 : p3422.toInt = p3424.toInt) (x3442 : rEl P3415 F3416 f3427) (x3443 : ((n3428 : Int) ≤ 16777216)) : CtA (gV D I) l yJx4a65c_add_72be8 cJx4a65c_add_72be8 4 none 5 105 1 (n3428 + n3428 / 2 + 1) [.ref q3417, .ref q3418, .ref q3419, .int p3422] (va_pl P3415 F3416) (pp_3444_ArrayList_add D I P3415 F3416 q3417 q3418 q3419 q3420 q3421 p3422 p3423 p3424 p3425 p3426 f3427 n3428 p3429 p3430 p3431 p3432 p3433 p3434 p3435 p3436 p3437) gNA := by
  refine CtA_ofF hl0 (by decide +kernel) (Nat.le_of_ble_eq_true rfl) ?_
  have bp3423 := gB_any p3423
  have bp3429 := gB_any p3429
  have bp3433 := gB_any p3433
  have bp3434 := gB_any p3434
  refine G_iload_n 3 dr_cJx4a65c_add_72be8_0 rfl ?_
  refine G_aload_n 2 dr_cJx4a65c_add_72be8_1 rfl ?_
  refine Gp_alen (Int32.ofNat n3428) 4 hmq3419 heq3419 dr_cJx4a65c_add_72be8_2 rfl rfl (G_nam fun z3445 hz3445 => ?_)
  have ez3445 : z3445.toInt = (n3428 : Nat) := gI_ofM hz3445 (by omega)
  have bz3445 : gB z3445 0 16777216 := ⟨by omega, by omega⟩
  refine G_icmp_ne 11 dr_cJx4a65c_add_72be8_3 (by decide +kernel) (fun hc => absurd (show False by have := gC_ne hc; omega) not_false) (fun hc3446 => ?_)
  have r3448 : p3422.toInt = z3445.toInt := gC_eq hc3446
  refine G_aload_n 0 dr_cJx4a65c_add_72be8_6 rfl ?_
  refine Gw_callV (As := []) (gV_ok D I) (cp_326_ArrayList_grow l hl0 D I P3415 F3416 q3417 q3419 p3423 p3424 f3427 n3428 hmq3417 hmq3419 heq3417 heq3419 bp3424 (by omega) (by omega) (by omega) (rEl_frG (rEl_src x3442 rSrc_rf) (rSub_rf (P := P3415)) (rFr_rf (W := []) (P := P3415) (F := F3416)) rNg_n) (by omega)) dr_cJx4a65c_add_72be8_7 ⟨wr_10_11, wr_1_18, wr_10_14, by decide, rfl, (Nat.le_of_ble_eq_true rfl), (Nat.le_of_ble_eq_true rfl)⟩ wr_10_13 wr_p_86 hmq3417 heq3417 rfl (show 0 + 1 ≤ 1 by first | omega | decide) (show 0 + (n3428 + n3428 / 2 + 1) ≤ (n3428 + n3428 / 2 + 1) by first | omega | decide) (Nat.le_of_ble_eq_true rfl) (fun r3452 w3453 dc3449 ds3450 hp3451 => ?_) (fun _ _ _ _ _ z => z.elim)
  obtain ⟨P3460, F3461, q3454, n3455, f3456, rfl, rfl, hsb3462, hfr3463, he3464, he3465, hm3466, hq3467, hdc, hds, x3457, x3458, x3459⟩ := hp3451
  have hm3468 : q3417 ∈ P3460 := hsb3462 q3417 hmq3417
  have hm3469 : q3418 ∈ P3460 := hsb3462 q3418 hmq3418
  have hm3470 : q3419 ∈ P3460 := hsb3462 q3419 hmq3419
  have hm3471 : q3420 ∈ P3460 := hsb3462 q3420 hmq3420
  have hm3472 : q3421 ∈ P3460 := hsb3462 q3421 hmq3421
  have hq3473 : q3454 ∉ P3415 := fun z => hq3467 ((rSub_rf (P := P3415)) q3454 z)
  have hsb3474 : rSub P3415 P3460 := rSub_tr (rSub_rf (P := P3415)) hsb3462
  have he3475 : F3461 q3418 = .inr (17, [.ref q3420, .ref q3421, .int p3425, .int p3426]) := (hfr3463 q3418 hmq3418 (nm_c (rn_oo heq3418 heq3417 (by decide)) nm_n)).trans heq3418
  have he3476 : F3461 q3419 = .inl (I (.object "java/lang/Object"), n3428, .inr (.inr (.inr (.inr f3427)))) := (hfr3463 q3419 hmq3419 (nm_c (rn_ao heq3419 heq3417) nm_n)).trans heq3419
  have he3477 : F3461 q3420 = .inr (4, [.int p3429, .ref (D.2 1002 1), .int p3430]) := (hfr3463 q3420 hmq3420 (nm_c (Ne.symm hneq3417q3420) nm_n)).trans heq3420
  have he3478 : F3461 q3421 = .inr (20, [.int p3431, .int p3432, .int p3433, .int p3434, .int p3435, .int p3436, .int p3437]) := (hfr3463 q3421 hmq3421 (nm_c (rn_oo heq3421 heq3417 (by decide)) nm_n)).trans heq3421
  have hfr3479 : rFr [q3417] P3415 F3416 F3461 := rFr_call (rSub_rf (P := P3415)) (rFr_rf (W := []) (P := P3415) (F := F3416)) hfr3463 (fun b hb hn => ⟨nm_n, (nm_c (fun e => hn (e ▸ List.mem_cons_self)) nm_n)⟩)
  change G _ _ _ _ _ _ _ (.ref q3454 :: _) _ _ _
  refine G_widen (cs' := 1) (sl' := n3428 + n3428 / 2 + 1) (by omega) (by omega) ?_
  refine G_astore_n (L' := [(2, .ref q3454), (0, .ref q3417), (1, .ref q3418), (3, .int p3422)]) dr_cJx4a65c_add_72be8_10 (Nat.le_of_ble_eq_true rfl) rfl ?_
  refine G_aload_n 0 dr_cJx4a65c_add_72be8_11 rfl ?_
  refine G_iload_n 3 dr_cJx4a65c_add_72be8_12 rfl ?_
  refine G_aload_n 2 dr_cJx4a65c_add_72be8_13 rfl ?_
  refine Gp_aast 4 hm3466 he3465 dr_cJx4a65c_add_72be8_14 rfl ⟨hm3469, _, _, _, _, _, he3475, rfl, gr_cast 2 rfl⟩ (gB_inr (by omega) (by omega)) (fun F3480 e3481 n3482 => ?_)
  obtain ⟨f3483, hf3483⟩ : ∃ z, z = va_up f3456 p3422.toNatClampNeg (some q3418) := ⟨_, rfl⟩
  rw [← hf3483] at e3481
  have he3484 : F3480 q3418 = .inr (17, [.ref q3420, .ref q3421, .int p3425, .int p3426]) := (n3482 q3418 (fun h => hq3473 (h ▸ hmq3418))).trans he3475
  have he3485 : F3480 q3419 = .inl (I (.object "java/lang/Object"), n3428, .inr (.inr (.inr (.inr f3427)))) := (n3482 q3419 (fun h => hq3473 (h ▸ hmq3419))).trans he3476
  have he3486 : F3480 q3420 = .inr (4, [.int p3429, .ref (D.2 1002 1), .int p3430]) := (n3482 q3420 (fun h => hq3473 (h ▸ hmq3420))).trans he3477
  have he3487 : F3480 q3421 = .inr (20, [.int p3431, .int p3432, .int p3433, .int p3434, .int p3435, .int p3436, .int p3437]) := (n3482 q3421 (fun h => hq3473 (h ▸ hmq3421))).trans he3478
  have he3488 : F3480 q3417 = .inr (4, [.int p3423, .ref q3454, .int p3424]) := (n3482 q3417 (fun h => hq3473 (h ▸ hmq3417))).trans he3464
  have he3489 : F3480 q3454 = .inl (I (.object "java/lang/Object"), n3455, .inr (.inr (.inr (.inr f3483)))) := e3481
  have hfr3490 : rFr [q3417] P3415 F3416 F3480 := rFr_newp hq3473 hfr3479 n3482
  refine G_aload_n 1 dr_cJx4a65c_add_72be8_15 rfl ?_
  refine G_iload_n 3 dr_cJx4a65c_add_72be8_16 rfl ?_
  refine G_iconst 1 dr_cJx4a65c_add_72be8_17 (by decide +kernel) ?_
  refine G_iadd dr_cJx4a65c_add_72be8_18 (G_nam fun z3491 hz3491 => ?_)
  have ez3491 : z3491.toInt = p3422.toInt + 1 := by rw [gI_add hz3491 bp3422 (gBl (show Int32.toInt 1 = 1 by decide)) (by decide) (by decide), show Int32.toInt 1 = 1 from by decide]
  have bz3491 : gB z3491 1 16777217 := gB_add (gI_add hz3491 bp3422 (gBl (show Int32.toInt 1 = 1 by decide)) (by decide) (by decide)) bp3422 (gBl (show Int32.toInt 1 = 1 by decide)) (by decide) (by decide)
  refine Gp_put 2 hm3468 he3488 dr_cJx4a65c_add_72be8_19 (gk_Jx4a65c D I) (Nat.le_of_ble_eq_true rfl) wr_7_18 rfl rfl rfl (Nat.le_of_ble_eq_true rfl) (fun F3492 e3493 n3494 => ?_)
  have he3495 : F3492 q3418 = .inr (17, [.ref q3420, .ref q3421, .int p3425, .int p3426]) := (n3494 q3418 (rn_oo he3484 he3488 (by decide))).trans he3484
  have he3496 : F3492 q3419 = .inl (I (.object "java/lang/Object"), n3428, .inr (.inr (.inr (.inr f3427)))) := (n3494 q3419 (rn_ao he3485 he3488)).trans he3485
  have he3497 : F3492 q3420 = .inr (4, [.int p3429, .ref (D.2 1002 1), .int p3430]) := (n3494 q3420 (Ne.symm hneq3417q3420)).trans he3486
  have he3498 : F3492 q3421 = .inr (20, [.int p3431, .int p3432, .int p3433, .int p3434, .int p3435, .int p3436, .int p3437]) := (n3494 q3421 (rn_oo he3487 he3488 (by decide))).trans he3487
  have he3499 : F3492 q3454 = .inl (I (.object "java/lang/Object"), n3455, .inr (.inr (.inr (.inr f3483)))) := (n3494 q3454 (fun h => hq3473 (h ▸ hmq3417))).trans he3489
  have he3500 : F3492 q3417 = .inr (4, [.int p3423, .ref q3454, .int z3491]) := e3493
  have hfr3501 : rFr [q3417] P3415 F3416 F3492 := rFr_put' List.mem_cons_self hfr3490 n3494
  exact G_vretA dr_cJx4a65c_add_72be8_22 rfl (Nat.le_of_ble_eq_true rfl) (show n3428 + n3428 / 2 + 1 ≤ (n3428 + n3428 / 2 + 1) by omega) ⟨P3460, F3492, z3491, q3454, n3455, f3483, rfl, rfl, hsb3474, hfr3501, he3495, he3496, he3497, he3498, he3500, he3499, hm3466, hq3473, (Nat.le_of_ble_eq_true rfl), (by omega), bz3491, (by omega), (rI_add (fun j hj => x3457 j (by omega)) hf3483 (by omega) (by omega)), (rSrcX_up hf3483 (rSrc_tr x3458 rSrc_rf)), (by omega)⟩
abbrev ky_3404_ArrayList_add : gKey := (cJx4a65c_add_9ea2d, 2, "java/util/ArrayList", (some FieldType.boolean), [], "add", fun _ _ => True)
def pp_3404_ArrayList_add (D : va_G) (I : FieldType → ClassId) (P3377 : List Nat) (F3378 : Nat → va_E) (q3379 : Nat) (q3380 : Nat) (q3381 : Nat) (q3382 : Nat) (q3383 : Nat) (p3384 : Int32) (p3385 : Int32) (p3386 : Int32) (p3387 : Int32) (f3388 : Nat → Option Nat) (n3389 : Nat) (p3390 : Int32) (p3391 : Int32) (p3392 : Int32) (p3393 : Int32) (p3394 : Int32) (p3395 : Int32) (p3396 : Int32) (p3397 : Int32) (p3398 : Int32) : Option Value → va_W → Nat → Nat → Prop := fun r w dc ds => ∃ (P3546 : List Nat) (F3547 : Nat → va_E) (o3541 : Int32) (o3542 : Int32) (q3543 : Nat) (n3544 : Nat) (f3545 : Nat → Option Nat), r = some (.int 1) ∧ w = va_pl P3546 F3547 ∧ rSub P3377 P3546 ∧ rFr [q3379] P3377 F3378 F3547 ∧ F3547 q3380 = .inr (17, [.ref q3382, .ref q3383, .int p3386, .int p3387]) ∧ F3547 q3382 = .inr (4, [.int p3390, .ref (D.2 1002 1), .int p3391]) ∧ F3547 q3383 = .inr (20, [.int p3392, .int p3393, .int p3394, .int p3395, .int p3396, .int p3397, .int p3398]) ∧ F3547 q3379 = .inr (4, [.int o3541, .ref q3543, .int o3542]) ∧ F3547 q3543 = .inl (I (.object "java/lang/Object"), n3544, .inr (.inr (.inr (.inr f3545)))) ∧ q3543 ∈ P3546 ∧ q3543 ∉ P3377 ∧ dc ≤ 1 ∧ ds ≤ n3389 + n3389 / 2 + 1 ∧ gB o3542 1 16777217 ∧ o3542.toInt = p3385.toInt + 1 ∧ ((∀ j : Nat, (j : Int) < p3385.toInt → f3545 j = f3388 j) ∧ f3545 p3385.toInt.toNat = some q3380) ∧ rSrcX f3545 f3388 q3380 ∧ ((n3544 : Int) ≤ (n3389 : Int) + (n3389 : Int) / 2 + 1 ∧ (n3389 : Int) + 1 ≤ (n3544 : Int) ∧ (n3389 : Int) + (n3389 : Int) / 2 ≤ (n3544 : Int))
set_option maxRecDepth 100000 in
set_option maxHeartbeats 4000000 in
theorem cp_3404_ArrayList_add (l : Launch) (hl0 : l.stackTraces = false) (D : va_G) (I : FieldType → ClassId) (P3377 : List Nat) (F3378 : Nat → va_E) (q3379 : Nat) (q3380 : Nat) (q3381 : Nat) (q3382 : Nat) (q3383 : Nat) (p3384 : Int32) (p3385 : Int32) (p3386 : Int32) (p3387 : Int32) (f3388 : Nat → Option Nat) (n3389 : Nat) (p3390 : Int32) (p3391 : Int32) (p3392 : Int32) (p3393 : Int32) (p3394 : Int32) (p3395 : Int32) (p3396 : Int32) (p3397 : Int32) (p3398 : Int32) (hmq3379 : q3379 ∈ P3377) (hmq3380 : q3380 ∈ P3377) (hmq3381 : q3381 ∈ P3377) (hmq3382 : q3382 ∈ P3377) (hmq3383 : q3383 ∈ P3377) (heq3379 : F3378 q3379 = .inr (4, [.int p3384, .ref q3381, .int p3385])) (heq3380 : F3378 q3380 = .inr (17, [.ref q3382, .ref q3383, .int p3386, .int p3387])) (heq3381 : F3378 q3381 = .inl (I (.object "java/lang/Object"), n3389, .inr (.inr (.inr (.inr f3388))))) (heq3382 : F3378 q3382 = .inr (4, [.int p3390, .ref (D.2 1002 1), .int p3391])) (heq3383 : F3378 q3383 = .inr (20, [.int p3392, .int p3393, .int p3394, .int p3395, .int p3396, .int p3397, .int p3398])) (hneq3379q3382 : q3379 ≠ q3382) (bp3385 : gB p3385 0 16777216) (bp3386 : gB p3386 0 39) (bp3387 : gB p3387 0 39) (bp3391 : gB p3391 0 16777216) (bp3392 : gB p3392 0 32) (bp3393 : gB p3393 0 1999) (bp3396 : gB p3396 0 1999) (bp3397 : gB p3397 0 1) (bp3398 : gB p3398 0 1) (x3399 : 0 < (n3389 : Int)) (x3400 : (n3389 : Int) ≤ 1000000) (x3401 : p3385.toInt = (n3389 : Int)) (x3402 : rEl P3377 F3378 f3388) (x3403 : ((n3389 : Int) ≤ 16777216)) : CtA (gV D I) l yJx4a65c_add_9ea2d cJx4a65c_add_9ea2d 2 (some FieldType.boolean) 6 128 1 (n3389 + n3389 / 2 + 1) [.ref q3379, .ref q3380] (va_pl P3377 F3378) (pp_3404_ArrayList_add D I P3377 F3378 q3379 q3380 q3381 q3382 q3383 p3384 p3385 p3386 p3387 f3388 n3389 p3390 p3391 p3392 p3393 p3394 p3395 p3396 p3397 p3398) gNA := by
  refine CtA_ofF hl0 (by decide +kernel) (Nat.le_of_ble_eq_true rfl) ?_
  have bp3384 := gB_any p3384
  have bp3390 := gB_any p3390
  have bp3394 := gB_any p3394
  have bp3395 := gB_any p3395
  refine G_aload_n 0 dr_cJx4a65c_add_9ea2d_0 rfl ?_
  refine G_dup dr_cJx4a65c_add_9ea2d_1 rfl ?_
  refine Gp_getS 0 hmq3379 heq3379 dr_cJx4a65c_add_9ea2d_2 (gk_Jx4a65c D I) (Nat.le_of_ble_eq_true rfl) wr_7_20 wr_7_21 rfl ?_
  refine G_iconst 1 dr_cJx4a65c_add_9ea2d_5 (by decide +kernel) ?_
  refine G_iadd dr_cJx4a65c_add_9ea2d_6 (G_nam fun z3405 hz3405 => ?_)
  have bz3405 : gB z3405 (-2147483648) 2147483647 := gB_any z3405
  refine Gp_putS 0 hmq3379 heq3379 dr_cJx4a65c_add_9ea2d_7 (gk_Jx4a65c D I) (Nat.le_of_ble_eq_true rfl) wr_7_20 wr_7_21 rfl rfl rfl (Nat.le_of_ble_eq_true rfl) (fun F3406 e3407 n3408 => ?_)
  have he3409 : F3406 q3380 = .inr (17, [.ref q3382, .ref q3383, .int p3386, .int p3387]) := (n3408 q3380 (rn_oo heq3380 heq3379 (by decide))).trans heq3380
  have he3410 : F3406 q3381 = .inl (I (.object "java/lang/Object"), n3389, .inr (.inr (.inr (.inr f3388)))) := (n3408 q3381 (rn_ao heq3381 heq3379)).trans heq3381
  have he3411 : F3406 q3382 = .inr (4, [.int p3390, .ref (D.2 1002 1), .int p3391]) := (n3408 q3382 (Ne.symm hneq3379q3382)).trans heq3382
  have he3412 : F3406 q3383 = .inr (20, [.int p3392, .int p3393, .int p3394, .int p3395, .int p3396, .int p3397, .int p3398]) := (n3408 q3383 (rn_oo heq3383 heq3379 (by decide))).trans heq3383
  have he3413 : F3406 q3379 = .inr (4, [.int z3405, .ref q3381, .int p3385]) := e3407
  have hfr3414 : rFr [q3379] P3377 F3378 F3406 := rFr_put (rFr_rf (W := []) (P := P3377) (F := F3378)) n3408
  refine G_aload_n 0 dr_cJx4a65c_add_9ea2d_10 rfl ?_
  refine G_aload_n 1 dr_cJx4a65c_add_9ea2d_11 rfl ?_
  refine G_aload_n 0 dr_cJx4a65c_add_9ea2d_12 rfl ?_
  refine Gp_get 1 hmq3379 he3413 dr_cJx4a65c_add_9ea2d_13 (gk_Jx4a65c D I) (Nat.le_of_ble_eq_true rfl) wr_7_17 rfl ?_
  refine G_aload_n 0 dr_cJx4a65c_add_9ea2d_16 rfl ?_
  refine Gp_get 2 hmq3379 he3413 dr_cJx4a65c_add_9ea2d_17 (gk_Jx4a65c D I) (Nat.le_of_ble_eq_true rfl) wr_7_18 rfl ?_
  refine Gw_callV (As := [.ref q3380, .ref q3381, .int p3385]) (gV_ok D I) (cp_3444_ArrayList_add l hl0 D I P3377 F3406 q3379 q3380 q3381 q3382 q3383 p3385 z3405 p3385 p3386 p3387 f3388 n3389 p3390 p3391 p3392 p3393 p3394 p3395 p3396 p3397 p3398 hmq3379 hmq3380 hmq3381 hmq3382 hmq3383 he3413 he3409 he3410 he3411 he3412 hneq3379q3382 bp3385 bp3385 bp3386 bp3387 bp3391 bp3392 bp3393 bp3396 bp3397 bp3398 (by omega) (by omega) (by omega) (by omega) (rEl_frG (rEl_src x3402 rSrc_rf) (rSub_rf (P := P3377)) hfr3414 (rNg_c (rNg_o heq3379 (by decide) (by decide)) rNg_n)) (by omega)) dr_cJx4a65c_add_9ea2d_20 ⟨wr_10_7, wr_1_18, wr_10_10, by decide, rfl, (Nat.le_of_ble_eq_true rfl), (Nat.le_of_ble_eq_true rfl)⟩ wr_10_9 wr_p_85 hmq3379 he3413 rfl (show 0 + 1 ≤ 1 by first | omega | decide) (show 0 + (n3389 + n3389 / 2 + 1) ≤ (n3389 + n3389 / 2 + 1) by first | omega | decide) (Nat.le_of_ble_eq_true rfl) (fun r3511 w3512 dc3508 ds3509 hp3510 => ?_) (fun _ _ _ _ _ z => z.elim)
  obtain ⟨P3521, F3522, o3513, q3514, n3515, f3516, rfl, rfl, hsb3523, hfr3524, he3525, he3526, he3527, he3528, he3529, he3530, hm3531, hq3532, hdc, hds, bo3513, x3517, x3518, x3519, x3520⟩ := hp3510
  have hm3533 : q3379 ∈ P3521 := hsb3523 q3379 hmq3379
  have hm3534 : q3380 ∈ P3521 := hsb3523 q3380 hmq3380
  have hm3535 : q3381 ∈ P3521 := hsb3523 q3381 hmq3381
  have hm3536 : q3382 ∈ P3521 := hsb3523 q3382 hmq3382
  have hm3537 : q3383 ∈ P3521 := hsb3523 q3383 hmq3383
  have hq3538 : q3514 ∉ P3377 := fun z => hq3532 ((rSub_rf (P := P3377)) q3514 z)
  have hsb3539 : rSub P3377 P3521 := rSub_tr (rSub_rf (P := P3377)) hsb3523
  have hfr3540 : rFr [q3379] P3377 F3378 F3522 := rFr_call (rSub_rf (P := P3377)) hfr3414 hfr3524 (fun b hb hn => ⟨(nm_c (fun e => hn (e ▸ List.mem_cons_self)) nm_n), (nm_c (fun e => hn (e ▸ List.mem_cons_self)) nm_n)⟩)
  change G _ _ _ _ _ _ _ _ _ _ _
  refine G_widen (cs' := 1) (sl' := n3389 + n3389 / 2 + 1) (by omega) (by omega) ?_
  refine G_iconst 1 dr_cJx4a65c_add_9ea2d_23 (by decide +kernel) ?_
  exact G_zretA FieldType.boolean dr_cJx4a65c_add_9ea2d_24 rfl rfl (Nat.le_of_ble_eq_true rfl) (show n3389 + n3389 / 2 + 1 ≤ (n3389 + n3389 / 2 + 1) by omega) ⟨P3521, F3522, z3405, o3513, q3514, n3515, f3516, rfl, rfl, hsb3539, hfr3540, he3525, he3527, he3528, he3529, he3530, hm3531, hq3538, (Nat.le_of_ble_eq_true rfl), (by omega), bo3513, (by omega), (by assumption), (by assumption), (by omega)⟩
abbrev ky_3321_Code_block : gKey := (cX13_block, 2, "SpillForgeModel$Code", (some (FieldType.object "SpillForgeModel$Block")), [], "block", fun _ _ => True)
def pp_3321_Code_block (D : va_G) (I : FieldType → ClassId) (P3303 : List Nat) (F3304 : Nat → va_E) (q3305 : Nat) (q3306 : Nat) (q3307 : Nat) (qo3308 : Nat) (p3309 : Int32) (p3310 : Int32) (p3311 : Int32) (p3312 : Int32) (f3313 : Nat → Option Nat) (n3314 : Nat) : Option Value → va_W → Nat → Nat → Prop := fun r w dc ds => ∃ (P3630 : List Nat) (F3631 : Nat → va_E) (o3620 : Int32) (q3621 : Nat) (o3622 : Int32) (o3623 : Int32) (q3624 : Nat) (o3625 : Int32) (q3626 : Nat) (q3627 : Nat) (n3628 : Nat) (f3629 : Nat → Option Nat), r = some (.ref q3621) ∧ w = va_pl P3630 F3631 ∧ rSub P3303 P3630 ∧ rFr [q3305, q3306] P3303 F3304 F3631 ∧ F3631 q3305 = .inr (18, [.ref q3306, .ref qo3308, .int p3309, .int o3620]) ∧ F3631 q3621 = .inr (17, [.ref q3624, .ref q3626, .int 0, .int 0]) ∧ F3631 q3626 = .inr (20, [.int 0, .int 0, .int 0, .int 0, .int 0, .int 0, .int 0]) ∧ F3631 q3306 = .inr (4, [.int o3622, .ref q3627, .int o3623]) ∧ F3631 q3627 = .inl (I (.object "java/lang/Object"), n3628, .inr (.inr (.inr (.inr f3629)))) ∧ F3631 q3624 = .inr (4, [.int o3625, .ref (D.2 1002 1), .int 0]) ∧ q3621 ∈ P3630 ∧ q3621 ∉ P3303 ∧ q3624 ∈ P3630 ∧ q3624 ∉ P3303 ∧ q3626 ∈ P3630 ∧ q3626 ∉ P3303 ∧ q3627 ∈ P3630 ∧ q3627 ∉ P3303 ∧ dc ≤ 4 ∧ ds ≤ n3314 + n3314 / 2 + 1 + 14 ∧ gB o3620 1 1000001 ∧ gB o3623 1 16777217 ∧ o3620.toInt = p3310.toInt + 1 ∧ o3623.toInt = p3312.toInt + 1 ∧ ((∀ j : Nat, (j : Int) < p3312.toInt → f3629 j = f3313 j) ∧ f3629 p3312.toInt.toNat = some q3621) ∧ rSrcX f3629 f3313 q3621 ∧ ((n3628 : Int) ≤ (n3314 : Int) + (n3314 : Int) / 2 + 1 ∧ (n3314 : Int) + 1 ≤ (n3628 : Int) ∧ (n3314 : Int) + (n3314 : Int) / 2 ≤ (n3628 : Int))
set_option maxRecDepth 100000 in
set_option maxHeartbeats 4000000 in
theorem cp_3321_Code_block (l : Launch) (hl0 : l.stackTraces = false) (D : va_G) (I : FieldType → ClassId) (P3303 : List Nat) (F3304 : Nat → va_E) (q3305 : Nat) (q3306 : Nat) (q3307 : Nat) (qo3308 : Nat) (p3309 : Int32) (p3310 : Int32) (p3311 : Int32) (p3312 : Int32) (f3313 : Nat → Option Nat) (n3314 : Nat) (hmq3305 : q3305 ∈ P3303) (hmq3306 : q3306 ∈ P3303) (hmq3307 : q3307 ∈ P3303) (heq3305 : F3304 q3305 = .inr (18, [.ref q3306, .ref qo3308, .int p3309, .int p3310])) (heq3306 : F3304 q3306 = .inr (4, [.int p3311, .ref q3307, .int p3312])) (heq3307 : F3304 q3307 = .inl (I (.object "java/lang/Object"), n3314, .inr (.inr (.inr (.inr f3313))))) (bp3309 : gB p3309 0 1000000) (bp3310 : gB p3310 0 1000000) (bp3312 : gB p3312 0 1000000) (x3315 : p3310.toInt = p3312.toInt) (x3316 : 0 < (n3314 : Int)) (x3317 : (n3314 : Int) ≤ 1000000) (x3318 : p3312.toInt = (n3314 : Int)) (x3319 : rEl P3303 F3304 f3313) (x3320 : ((n3314 : Int) ≤ 16777216)) : CtA (gV D I) l yX13_block cX13_block 2 (some (FieldType.object "SpillForgeModel$Block")) 7 149 4 (n3314 + n3314 / 2 + 1 + 14) [.ref q3305] (va_pl P3303 F3304) (pp_3321_Code_block D I P3303 F3304 q3305 q3306 q3307 qo3308 p3309 p3310 p3311 p3312 f3313 n3314) gNA := by
  refine CtA_of hl0 (by decide) (Nat.le_of_ble_eq_true rfl) ?_
  have bp3311 := gB_any p3311
  refine G_aload_n 0 dr_cX13_block_0 rfl ?_
  refine Gp_get 3 hmq3305 heq3305 dr_cX13_block_1 (gk_X13 D I) (Nat.le_of_ble_eq_true rfl) wr_7_33 rfl ?_
  refine G_aload_n 0 dr_cX13_block_4 rfl ?_
  refine Gp_get 0 hmq3305 heq3305 dr_cX13_block_5 (gk_X13 D I) (Nat.le_of_ble_eq_true rfl) wr_7_30 rfl ?_
  refine Gw_callV (As := []) (gV_ok D I) (cp_2299_ArrayList_size l hl0 D I P3303 F3304 q3306 q3307 p3311 p3312 f3313 n3314 hmq3306 hmq3307 heq3306 heq3307 (gB_w bp3312 (by decide) (by decide)) (by omega)) dr_cX13_block_8 ⟨wr_9_157, wr_1_18, wr_9_160, by decide, rfl, (Nat.le_of_ble_eq_true rfl), (Nat.le_of_ble_eq_true rfl)⟩ wr_9_158 wr_9_159 hmq3306 heq3306 rfl (show 0 + 0 ≤ 4 by first | omega | decide) (show 0 + 0 ≤ (n3314 + n3314 / 2 + 1 + 14) by first | omega | decide) (Nat.le_of_ble_eq_true rfl) (fun r3325 w3326 dc3322 ds3323 hp3324 => ?_) (fun _ _ _ _ _ z => z.elim)
  obtain ⟨rfl, rfl, hdc, hds⟩ := hp3324
  change G _ _ _ _ _ _ _ (.int p3312 :: _) _ _ _
  refine G_widen (cs' := 0) (sl' := 0) (by omega) (by omega) ?_
  refine G_icmp_ne 29 dr_cX13_block_11 (by decide +kernel) (fun hc => absurd (show False by have := gC_ne hc; omega) not_false) (fun hc3327 => ?_)
  have r3329 : p3310.toInt = p3312.toInt := gC_eq hc3327
  refine G_aload_n 0 dr_cX13_block_14 rfl ?_
  refine Gp_get 0 hmq3305 heq3305 dr_cX13_block_15 (gk_X13 D I) (Nat.le_of_ble_eq_true rfl) wr_7_30 rfl ?_
  refine G_new [.null, .null, .int 0, .int 0] dr_cX13_block_18 (gk_X12 D I) wr_9_161 wr_9_162 wr_1_38 (gfs_X12) (show 0 + 1 ≤ 4 by first | omega | decide) (show 0 + 4 ≤ (n3314 + n3314 / 2 + 1 + 14) by first | omega | decide) (fun q3330 => Gp_in (fun P3331 F3332 hq3333 hP3334 e3335 n3336 => ?_))
  refine G_widen (cs' := 1) (sl' := 4) (by omega) (by omega) ?_
  have he3337 : F3332 q3305 = .inr (18, [.ref q3306, .ref qo3308, .int p3309, .int p3310]) := (n3336 q3305 (fun h => hq3333 (h ▸ hmq3305))).trans heq3305
  have he3338 : F3332 q3306 = .inr (4, [.int p3311, .ref q3307, .int p3312]) := (n3336 q3306 (fun h => hq3333 (h ▸ hmq3306))).trans heq3306
  have he3339 : F3332 q3307 = .inl (I (.object "java/lang/Object"), n3314, .inr (.inr (.inr (.inr f3313)))) := (n3336 q3307 (fun h => hq3333 (h ▸ hmq3307))).trans heq3307
  have he3340 : F3332 q3330 = .inr (17, [.null, .null, .int 0, .int 0]) := e3335
  have hm3341 : q3305 ∈ P3331 := (hP3334 q3305).mpr (Or.inl hmq3305)
  have hm3342 : q3306 ∈ P3331 := (hP3334 q3306).mpr (Or.inl hmq3306)
  have hm3343 : q3307 ∈ P3331 := (hP3334 q3307).mpr (Or.inl hmq3307)
  have hm3344 : q3330 ∈ P3331 := (hP3334 q3330).mpr (Or.inr rfl)
  have hq3345 : q3330 ∉ P3303 := fun z => hq3333 ((rSub_rf (P := P3303)) q3330 z)
  have hfr3346 : rFr [] P3303 F3304 F3332 := rFr_new (rSub_rf (P := P3303)) hq3333 (rFr_rf (W := []) (P := P3303) (F := F3304)) n3336
  have hsb3347 : rSub P3303 P3331 := rSub_new (rSub_rf (P := P3303)) hP3334
  refine G_dup dr_cX13_block_21 rfl ?_
  refine Gw_callIN (As := []) (gV_ok D I) (cp_3029_Block_init l hl0 D I P3331 F3332 q3330 0 0 hm3344 he3340 (gB_w (gBl (show Int32.toInt 0 = 0 by decide)) (by decide) (by decide)) (gB_w (gBl (show Int32.toInt 0 = 0 by decide)) (by decide) (by decide))) dr_cX13_block_22 ⟨(fun _ _ _ h => gn_w 78 rfl h), wr_1_38, wr_9_165, by decide, rfl, (Nat.le_of_ble_eq_true rfl), (Nat.le_of_ble_eq_true rfl)⟩ wr_9_164 rfl (show 1 + 2 ≤ 4 by first | omega | decide) (show 4 + 10 ≤ (n3314 + n3314 / 2 + 1 + 14) by first | omega | decide) (Nat.le_of_ble_eq_true rfl) (fun r3351 w3352 dc3348 ds3349 hp3350 => ?_)
  obtain ⟨P3355, F3356, q3353, q3354, rfl, rfl, hsb3357, hfr3358, he3359, he3360, he3361, hm3362, hq3363, hm3364, hq3365, hdc, hds⟩ := hp3350
  have hm3366 : q3305 ∈ P3355 := hsb3357 q3305 hm3341
  have hm3367 : q3306 ∈ P3355 := hsb3357 q3306 hm3342
  have hm3368 : q3307 ∈ P3355 := hsb3357 q3307 hm3343
  have hm3369 : q3330 ∈ P3355 := hsb3357 q3330 hm3344
  have hq3370 : q3353 ∉ P3303 := fun z => hq3363 (hsb3347 q3353 z)
  have hq3371 : q3354 ∉ P3303 := fun z => hq3365 (hsb3347 q3354 z)
  have hsb3372 : rSub P3303 P3355 := rSub_tr hsb3347 hsb3357
  have he3373 : F3356 q3305 = .inr (18, [.ref q3306, .ref qo3308, .int p3309, .int p3310]) := (hfr3358 q3305 hm3341 (nm_c (fun h => hq3345 (h ▸ hmq3305)) nm_n)).trans he3337
  have he3374 : F3356 q3306 = .inr (4, [.int p3311, .ref q3307, .int p3312]) := (hfr3358 q3306 hm3342 (nm_c (fun h => hq3345 (h ▸ hmq3306)) nm_n)).trans he3338
  have he3375 : F3356 q3307 = .inl (I (.object "java/lang/Object"), n3314, .inr (.inr (.inr (.inr f3313)))) := (hfr3358 q3307 hm3343 (nm_c (fun h => hq3345 (h ▸ hmq3307)) nm_n)).trans he3339
  have hfr3376 : rFr [] P3303 F3304 F3356 := rFr_call hsb3347 hfr3346 hfr3358 (fun b hb hn => ⟨nm_n, (nm_c (fun e => hq3345 (e ▸ hb)) nm_n)⟩)
  change G _ _ _ _ _ _ _ _ _ _ _
  refine G_widen (cs' := 3) (sl' := 14) (by omega) (by omega) ?_
  refine Gw_callV (As := [.ref q3330]) (gV_ok D I) (cp_3404_ArrayList_add l hl0 D I P3355 F3356 q3306 q3330 q3307 q3353 q3354 p3311 p3312 0 0 f3313 n3314 0 0 0 0 0 0 0 0 0 hm3367 hm3369 hm3368 hm3362 hm3364 he3374 he3359 he3375 he3360 he3361 (fun h => hq3370 (h ▸ hmq3306)) (gB_w bp3312 (by decide) (by decide)) (gB_w (gBl (show Int32.toInt 0 = 0 by decide)) (by decide) (by decide)) (gB_w (gBl (show Int32.toInt 0 = 0 by decide)) (by decide) (by decide)) (gB_w (gBl (show Int32.toInt 0 = 0 by decide)) (by decide) (by decide)) (gB_w (gBl (show Int32.toInt 0 = 0 by decide)) (by decide) (by decide)) (gB_w (gBl (show Int32.toInt 0 = 0 by decide)) (by decide) (by decide)) (gB_w (gBl (show Int32.toInt 0 = 0 by decide)) (by decide) (by decide)) (gB_w (gBl (show Int32.toInt 0 = 0 by decide)) (by decide) (by decide)) (gB_w (gBl (show Int32.toInt 0 = 0 by decide)) (by decide) (by decide)) (by have qa0 : Int32.toInt 0 = 0 := (by decide); omega) (by have qa0 : Int32.toInt 0 = 0 := (by decide); omega) (by have qa0 : Int32.toInt 0 = 0 := (by decide); omega) (rEl_frG (rEl_src x3319 rSrc_rf) hsb3372 hfr3376 rNg_n) (by have qa0 : Int32.toInt 0 = 0 := (by decide); omega)) dr_cX13_block_25 ⟨wr_10_3, wr_1_18, wr_10_6, by decide, rfl, (Nat.le_of_ble_eq_true rfl), (Nat.le_of_ble_eq_true rfl)⟩ wr_10_4 wr_10_5 hm3367 he3374 rfl (show 3 + 1 ≤ 4 by first | omega | decide) (show 14 + (n3314 + n3314 / 2 + 1) ≤ (n3314 + n3314 / 2 + 1 + 14) by first | omega | decide) (Nat.le_of_ble_eq_true rfl) (fun r3551 w3552 dc3548 ds3549 hp3550 => ?_) (fun _ _ _ _ _ z => z.elim)
  obtain ⟨P3562, F3563, o3553, o3554, q3555, n3556, f3557, rfl, rfl, hsb3564, hfr3565, he3566, he3567, he3568, he3569, he3570, hm3571, hq3572, hdc, hds, bo3554, x3558, x3559, x3560, x3561⟩ := hp3550
  have hm3573 : q3305 ∈ P3562 := hsb3564 q3305 hm3366
  have hm3574 : q3306 ∈ P3562 := hsb3564 q3306 hm3367
  have hm3575 : q3307 ∈ P3562 := hsb3564 q3307 hm3368
  have hm3576 : q3330 ∈ P3562 := hsb3564 q3330 hm3369
  have hm3577 : q3353 ∈ P3562 := hsb3564 q3353 hm3362
  have hm3578 : q3354 ∈ P3562 := hsb3564 q3354 hm3364
  have hq3579 : q3555 ∉ P3303 := fun z => hq3572 (hsb3372 q3555 z)
  have hsb3580 : rSub P3303 P3562 := rSub_tr hsb3372 hsb3564
  have he3581 : F3563 q3305 = .inr (18, [.ref q3306, .ref qo3308, .int p3309, .int p3310]) := (hfr3565 q3305 hm3366 (nm_c (rn_oo he3373 he3374 (by decide)) nm_n)).trans he3373
  have he3582 : F3563 q3307 = .inl (I (.object "java/lang/Object"), n3314, .inr (.inr (.inr (.inr f3313)))) := (hfr3565 q3307 hm3368 (nm_c (rn_ao he3375 he3374) nm_n)).trans he3375
  have hfr3583 : rFr [q3306] P3303 F3304 F3563 := rFr_call hsb3372 hfr3376 hfr3565 (fun b hb hn => ⟨nm_n, (nm_c (fun e => hn (e ▸ List.mem_cons_self)) nm_n)⟩)
  have bo3553 := gB_any o3553
  change G _ _ _ _ _ _ _ (.int 1 :: _) _ _ _
  refine G_widen (cs' := 4) (sl' := 14 + (n3314 + n3314 / 2 + 1)) (by omega) (by omega) ?_
  have hx3584 : f3557 p3310.toNatClampNeg = some q3330 := by show f3557 p3310.toInt.toNat = _; rw [show p3310.toInt = p3312.toInt by omega]; exact x3559.2
  refine G_pop dr_cX13_block_28 rfl ?_
  refine G_aload_n 0 dr_cX13_block_29 rfl ?_
  refine Gp_get 0 hm3573 he3581 dr_cX13_block_30 (gk_X13 D I) (Nat.le_of_ble_eq_true rfl) wr_7_30 rfl ?_
  refine G_aload_n 0 dr_cX13_block_33 rfl ?_
  refine Gp_get 3 hm3573 he3581 dr_cX13_block_34 (gk_X13 D I) (Nat.le_of_ble_eq_true rfl) wr_7_33 rfl ?_
  refine Gw_callV (As := [.int p3310]) (gV_ok D I) (cp_22_ArrayList_get l hl0 D I P3562 F3563 q3306 q3555 p3310 o3553 o3554 f3557 n3556 q3330 hm3574 hm3571 he3569 he3570 (gB_w bp3310 (by decide) (by decide)) ⟨by omega, by omega⟩ (by have qa0 : Int32.toInt 0 = 0 := (by decide); omega) (by have qa0 : Int32.toInt 0 = 0 := (by decide); omega) (by assumption) (by have qa0 : Int32.toInt 0 = 0 := (by decide); omega)) dr_cX13_block_37 ⟨wr_10_62, wr_1_18, wr_10_65, by decide, rfl, (Nat.le_of_ble_eq_true rfl), (Nat.le_of_ble_eq_true rfl)⟩ wr_10_63 wr_10_64 hm3574 he3569 rfl (show 4 + 0 ≤ 4 by first | omega | decide) (show 14 + (n3314 + n3314 / 2 + 1) + 0 ≤ (n3314 + n3314 / 2 + 1 + 14) by first | omega | decide) (Nat.le_of_ble_eq_true rfl) (fun r3588 w3589 dc3585 ds3586 hp3587 => ?_) (fun _ _ _ _ _ z => z.elim)
  obtain ⟨rfl, rfl, hdc, hds, ht3590⟩ := hp3587
  change G _ _ _ _ _ _ _ (.ref q3330 :: _) _ _ _
  refine G_widen (cs' := 4) (sl' := 14 + (n3314 + n3314 / 2 + 1) + 0) (by omega) (by omega) ?_
  refine Gp_cast hm3576 he3566 rfl dr_cX13_block_40 wr_9_161 (gr_cast 0 rfl) ?_
  refine G_astore_n (L' := [(1, .ref q3330), (0, .ref q3305)]) dr_cX13_block_43 (Nat.le_of_ble_eq_true rfl) rfl ?_
  refine G_aload_n 1 dr_cX13_block_44 rfl ?_
  refine G_dup dr_cX13_block_45 rfl ?_
  refine Gp_get 3 hm3573 he3581 dr_cX13_block_46 (gk_X13 D I) (Nat.le_of_ble_eq_true rfl) wr_7_33 rfl ?_
  refine G_iconst 1 dr_cX13_block_49 (by decide +kernel) ?_
  refine G_iadd dr_cX13_block_50 (G_nam fun z3591 hz3591 => ?_)
  have ez3591 : z3591.toInt = p3310.toInt + 1 := by rw [gI_add hz3591 bp3310 (gBl (show Int32.toInt 1 = 1 by decide)) (by decide) (by decide), show Int32.toInt 1 = 1 from by decide]
  have bz3591 : gB z3591 1 1000001 := gB_add (gI_add hz3591 bp3310 (gBl (show Int32.toInt 1 = 1 by decide)) (by decide) (by decide)) bp3310 (gBl (show Int32.toInt 1 = 1 by decide)) (by decide) (by decide)
  refine Gp_put 3 hm3573 he3581 dr_cX13_block_51 (gk_X13 D I) (Nat.le_of_ble_eq_true rfl) wr_7_33 rfl rfl rfl (Nat.le_of_ble_eq_true rfl) (fun F3592 e3593 n3594 => ?_)
  have he3595 : F3592 q3307 = .inl (I (.object "java/lang/Object"), n3314, .inr (.inr (.inr (.inr f3313)))) := (n3594 q3307 (rn_ao he3582 he3581)).trans he3582
  have he3596 : F3592 q3330 = .inr (17, [.ref q3353, .ref q3354, .int 0, .int 0]) := (n3594 q3330 (fun h => hq3345 (h ▸ hmq3305))).trans he3566
  have he3597 : F3592 q3353 = .inr (4, [.int 0, .ref (D.2 1002 1), .int 0]) := (n3594 q3353 (fun h => hq3370 (h ▸ hmq3305))).trans he3567
  have he3598 : F3592 q3354 = .inr (20, [.int 0, .int 0, .int 0, .int 0, .int 0, .int 0, .int 0]) := (n3594 q3354 (fun h => hq3371 (h ▸ hmq3305))).trans he3568
  have he3599 : F3592 q3306 = .inr (4, [.int o3553, .ref q3555, .int o3554]) := (n3594 q3306 (rn_oo he3569 he3581 (by decide))).trans he3569
  have he3600 : F3592 q3555 = .inl (I (.object "java/lang/Object"), n3556, .inr (.inr (.inr (.inr f3557)))) := (n3594 q3555 (fun h => hq3579 (h ▸ hmq3305))).trans he3570
  have he3601 : F3592 q3305 = .inr (18, [.ref q3306, .ref qo3308, .int p3309, .int z3591]) := e3593
  have hfr3602 : rFr [q3305, q3306] P3303 F3304 F3592 := rFr_put hfr3583 n3594
  refine G_aload_n 0 dr_cX13_block_54 rfl ?_
  refine Gp_get 0 hm3576 he3596 dr_cX13_block_55 (gk_X12 D I) (Nat.le_of_ble_eq_true rfl) wr_9_219 rfl ?_
  refine Gw_callV (As := []) (gV_ok D I) (cp_1471_ArrayList_clear l hl0 D I P3562 F3592 q3353 0 0 hm3577 he3597 (gB_w (gBl (show Int32.toInt 0 = 0 by decide)) (by decide) (by decide)) (by have qa0 : Int32.toInt 0 = 0 := (by decide); omega)) dr_cX13_block_58 ⟨wr_10_74, wr_1_18, wr_10_77, by decide, rfl, (Nat.le_of_ble_eq_true rfl), (Nat.le_of_ble_eq_true rfl)⟩ wr_10_75 wr_10_76 hm3577 he3597 rfl (show 4 + 0 ≤ 4 by first | omega | decide) (show 14 + (n3314 + n3314 / 2 + 1) + 0 + 0 ≤ (n3314 + n3314 / 2 + 1 + 14) by first | omega | decide) (Nat.le_of_ble_eq_true rfl) (fun r3606 w3607 dc3603 ds3604 hp3605 => ?_) (fun _ _ _ _ _ z => z.elim)
  obtain ⟨F3609, o3608, rfl, rfl, hfr3611, he3612, hdc, hds⟩ := hp3605
  have he3613 : F3609 q3305 = .inr (18, [.ref q3306, .ref qo3308, .int p3309, .int z3591]) := (hfr3611 q3305 hm3573 (nm_c (fun h => hq3370 (h ▸ hmq3305)) nm_n)).trans he3601
  have he3614 : F3609 q3307 = .inl (I (.object "java/lang/Object"), n3314, .inr (.inr (.inr (.inr f3313)))) := (hfr3611 q3307 hm3575 (nm_c (fun h => hq3370 (h ▸ hmq3307)) nm_n)).trans he3595
  have he3615 : F3609 q3330 = .inr (17, [.ref q3353, .ref q3354, .int 0, .int 0]) := (hfr3611 q3330 hm3576 (nm_c (rn_oo he3596 he3597 (by decide)) nm_n)).trans he3596
  have he3616 : F3609 q3354 = .inr (20, [.int 0, .int 0, .int 0, .int 0, .int 0, .int 0, .int 0]) := (hfr3611 q3354 hm3578 (nm_c (rn_oo he3598 he3597 (by decide)) nm_n)).trans he3598
  have he3617 : F3609 q3306 = .inr (4, [.int o3553, .ref q3555, .int o3554]) := (hfr3611 q3306 hm3574 (nm_c (fun h => hq3370 (h ▸ hmq3306)) nm_n)).trans he3599
  have he3618 : F3609 q3555 = .inl (I (.object "java/lang/Object"), n3556, .inr (.inr (.inr (.inr f3557)))) := (hfr3611 q3555 hm3571 (nm_c (rn_ao he3600 he3597) nm_n)).trans he3600
  have hfr3619 : rFr [q3305, q3306] P3303 F3304 F3609 := rFr_call hsb3580 hfr3602 hfr3611 (fun b hb hn => ⟨(nm_c (fun e => hn (e ▸ List.mem_cons_self)) (nm_c (fun e => hn (e ▸ (List.mem_cons_of_mem _ List.mem_cons_self))) nm_n)), (nm_c (fun e => hq3370 (e ▸ hb)) nm_n)⟩)
  have bo3608 := gB_any o3608
  change G _ _ _ _ _ _ _ _ _ _ _
  refine G_widen (cs' := 4) (sl' := 14 + (n3314 + n3314 / 2 + 1) + 0 + 0) (by omega) (by omega) ?_
  refine G_aload_n 0 dr_cX13_block_61 rfl ?_
  exact G_aretA (FieldType.object "SpillForgeModel$Block") dr_cX13_block_62 rfl (by first | exact Or.inl ⟨_, rfl⟩ | exact Or.inr ⟨_, rfl⟩) (Or.inr ⟨_, rfl⟩) (Nat.le_of_ble_eq_true rfl) (show 14 + (n3314 + n3314 / 2 + 1) + 0 + 0 ≤ (n3314 + n3314 / 2 + 1 + 14) by omega) ⟨P3562, F3609, z3591, q3330, o3553, o3554, q3353, o3608, q3354, q3555, n3556, f3557, rfl, rfl, hsb3580, hfr3619, he3613, he3615, he3616, he3617, he3618, he3612, hm3576, hq3345, hm3577, hq3370, hm3578, hq3371, hm3571, hq3579, (Nat.le_of_ble_eq_true rfl), (by omega), bz3591, bo3554, (by have qa0 : Int32.toInt 0 = 0 := (by decide); omega), (by have qa0 : Int32.toInt 0 = 0 := (by decide); omega), (by assumption), (by assumption), (by have qa0 : Int32.toInt 0 = 0 := (by decide); omega)⟩
abbrev ky_3747_ArrayList_add : gKey := (cJx4a65c_add_72be8, 4, "java/util/ArrayList", none, [], "add", fun _ _ => True)
def pp_3747_ArrayList_add (D : va_G) (I : FieldType → ClassId) (P3725 : List Nat) (F3726 : Nat → va_E) (q3727 : Nat) (q3728 : Nat) (q3729 : Nat) (q3730 : Nat) (p3731 : Int32) (p3732 : Int32) (p3733 : Int32) (p3734 : Int32) (p3735 : Int32) (p3736 : Int32) (p3737 : Int32) (p3738 : Int32) (p3739 : Int32) (p3740 : Int32) (p3741 : Int32) (p3742 : Int32) (p3743 : Int32) (p3744 : Int32) : Option Value → va_W → Nat → Nat → Prop := fun r w dc ds => ∃ (P3801 : List Nat) (F3802 : Nat → va_E) (o3797 : Int32) (q3798 : Nat) (n3799 : Nat) (f3800 : Nat → Option Nat), r = none ∧ w = va_pl P3801 F3802 ∧ rSub P3725 P3801 ∧ rFr [q3727] P3725 F3726 F3802 ∧ F3802 q3728 = .inr (17, [.ref q3729, .ref q3730, .int p3734, .int p3735]) ∧ F3802 q3729 = .inr (4, [.int p3736, .ref (D.2 1002 1), .int p3737]) ∧ F3802 q3730 = .inr (20, [.int p3738, .int p3739, .int p3740, .int p3741, .int p3742, .int p3743, .int p3744]) ∧ F3802 q3727 = .inr (4, [.int p3732, .ref q3798, .int o3797]) ∧ F3802 q3798 = .inl (I (.object "java/lang/Object"), n3799, .inr (.inr (.inr (.inr f3800)))) ∧ q3798 ∈ P3801 ∧ q3798 ∉ P3725 ∧ dc ≤ 1 ∧ ds ≤ 10 ∧ gB o3797 1 1 ∧ o3797.toInt = p3733.toInt + 1 ∧ f3800 p3731.toInt.toNat = some q3728 ∧ (∀ j w, f3800 j = some w → w = q3728) ∧ (n3799 : Int) = 10
set_option maxRecDepth 100000 in
set_option maxHeartbeats 4000000 in
theorem cp_3747_ArrayList_add (l : Launch) (hl0 : l.stackTraces = false) (D : va_G) (I : FieldType → ClassId) (P3725 : List Nat) (F3726 : Nat → va_E) (q3727 : Nat) (q3728 : Nat) (q3729 : Nat) (q3730 : Nat) (p3731 : Int32) (p3732 : Int32) (p3733 : Int32) (p3734 : Int32) (p3735 : Int32) (p3736 : Int32) (p3737 : Int32) (p3738 : Int32) (p3739 : Int32) (p3740 : Int32) (p3741 : Int32) (p3742 : Int32) (p3743 : Int32) (p3744 : Int32) (hmq3727 : q3727 ∈ P3725) (hmq3728 : q3728 ∈ P3725) (hmq3729 : q3729 ∈ P3725) (hmq3730 : q3730 ∈ P3725) (heq3727 : F3726 q3727 = .inr (4, [.int p3732, .ref (D.2 1002 1), .int p3733])) (heq3728 : F3726 q3728 = .inr (17, [.ref q3729, .ref q3730, .int p3734, .int p3735])) (heq3729 : F3726 q3729 = .inr (4, [.int p3736, .ref (D.2 1002 1), .int p3737])) (heq3730 : F3726 q3730 = .inr (20, [.int p3738, .int p3739, .int p3740, .int p3741, .int p3742, .int p3743, .int p3744])) (hneq3727q3729 : q3727 ≠ q3729) (bp3731 : gB p3731 0 16777216) (bp3733 : gB p3733 0 16777216) (bp3734 : gB p3734 0 39) (bp3735 : gB p3735 0 39) (bp3737 : gB p3737 0 16777216) (bp3738 : gB p3738 0 32) (bp3739 : gB p3739 0 1999) (bp3742 : gB p3742 0 1999) (bp3743 : gB p3743 0 1) (bp3744 : gB p3744 0 1) (x3745 : p3733.toInt = 0) (x3746 : p3731.toInt = p3733.toInt) : CtA (gV D I) l yJx4a65c_add_72be8 cJx4a65c_add_72be8 4 none 3 57 1 10 [.ref q3727, .ref q3728, .ref (D.2 1002 1), .int p3731] (va_pl P3725 F3726) (pp_3747_ArrayList_add D I P3725 F3726 q3727 q3728 q3729 q3730 p3731 p3732 p3733 p3734 p3735 p3736 p3737 p3738 p3739 p3740 p3741 p3742 p3743 p3744) gNA := by
  refine CtA_ofF hl0 (by decide +kernel) (Nat.le_of_ble_eq_true rfl) ?_
  have bp3732 := gB_any p3732
  have bp3736 := gB_any p3736
  have bp3740 := gB_any p3740
  have bp3741 := gB_any p3741
  refine G_iload_n 3 dr_cJx4a65c_add_72be8_0 rfl ?_
  refine G_aload_n 2 dr_cJx4a65c_add_72be8_1 rfl ?_
  refine G_klen dr_cJx4a65c_add_72be8_2 gr_dt ?_
  refine G_icmp_ne 11 dr_cJx4a65c_add_72be8_3 (by decide +kernel) (fun hc => absurd (show False by have := gj_neq hc (show Int32.toInt 0 = 0 by decide); omega) not_false) (fun hc3748 => ?_)
  have r3750 : p3731.toInt = 0 := gj_eq hc3748 (show Int32.toInt 0 = 0 by decide)
  have bp3731' : gB p3731 0 0 := ⟨by omega, by omega⟩
  refine G_aload_n 0 dr_cJx4a65c_add_72be8_6 rfl ?_
  refine Gw_callV (As := []) (gV_ok D I) (cp_780_ArrayList_grow l hl0 D I P3725 F3726 q3727 p3732 p3733 hmq3727 heq3727 bp3733 (by omega)) dr_cJx4a65c_add_72be8_7 ⟨wr_10_11, wr_1_18, wr_10_14, by decide, rfl, (Nat.le_of_ble_eq_true rfl), (Nat.le_of_ble_eq_true rfl)⟩ wr_10_13 wr_p_86 hmq3727 heq3727 rfl (show 0 + 1 ≤ 1 by first | omega | decide) (show 0 + 10 ≤ 10 by first | omega | decide) (Nat.le_of_ble_eq_true rfl) (fun r3754 w3755 dc3751 ds3752 hp3753 => ?_) (fun _ _ _ _ _ z => z.elim)
  obtain ⟨P3759, F3760, q3756, n3757, rfl, rfl, hsb3761, hfr3762, he3763, he3764, hm3765, hq3766, hdc, hds, x3758⟩ := hp3753
  have hm3767 : q3727 ∈ P3759 := hsb3761 q3727 hmq3727
  have hm3768 : q3728 ∈ P3759 := hsb3761 q3728 hmq3728
  have hm3769 : q3729 ∈ P3759 := hsb3761 q3729 hmq3729
  have hm3770 : q3730 ∈ P3759 := hsb3761 q3730 hmq3730
  have hq3771 : q3756 ∉ P3725 := fun z => hq3766 ((rSub_rf (P := P3725)) q3756 z)
  have hsb3772 : rSub P3725 P3759 := rSub_tr (rSub_rf (P := P3725)) hsb3761
  have he3773 : F3760 q3728 = .inr (17, [.ref q3729, .ref q3730, .int p3734, .int p3735]) := (hfr3762 q3728 hmq3728 (nm_c (rn_oo heq3728 heq3727 (by decide)) nm_n)).trans heq3728
  have he3774 : F3760 q3729 = .inr (4, [.int p3736, .ref (D.2 1002 1), .int p3737]) := (hfr3762 q3729 hmq3729 (nm_c (Ne.symm hneq3727q3729) nm_n)).trans heq3729
  have he3775 : F3760 q3730 = .inr (20, [.int p3738, .int p3739, .int p3740, .int p3741, .int p3742, .int p3743, .int p3744]) := (hfr3762 q3730 hmq3730 (nm_c (rn_oo heq3730 heq3727 (by decide)) nm_n)).trans heq3730
  have hfr3776 : rFr [q3727] P3725 F3726 F3760 := rFr_call (rSub_rf (P := P3725)) (rFr_rf (W := []) (P := P3725) (F := F3726)) hfr3762 (fun b hb hn => ⟨nm_n, (nm_c (fun e => hn (e ▸ List.mem_cons_self)) nm_n)⟩)
  change G _ _ _ _ _ _ _ (.ref q3756 :: _) _ _ _
  refine G_widen (cs' := 1) (sl' := 10) (by omega) (by omega) ?_
  refine G_astore_n (L' := [(2, .ref q3756), (0, .ref q3727), (1, .ref q3728), (3, .int p3731)]) dr_cJx4a65c_add_72be8_10 (Nat.le_of_ble_eq_true rfl) rfl ?_
  refine G_aload_n 0 dr_cJx4a65c_add_72be8_11 rfl ?_
  refine G_iload_n 3 dr_cJx4a65c_add_72be8_12 rfl ?_
  refine G_aload_n 2 dr_cJx4a65c_add_72be8_13 rfl ?_
  refine Gp_aast 4 hm3765 he3764 dr_cJx4a65c_add_72be8_14 rfl ⟨hm3768, _, _, _, _, _, he3773, rfl, gr_cast 2 rfl⟩ (gB_inr (by omega) (by omega)) (fun F3777 e3778 n3779 => ?_)
  obtain ⟨f3780, hf3780⟩ : ∃ z, z = va_up (fun _ => none) p3731.toNatClampNeg (some q3728) := ⟨_, rfl⟩
  rw [← hf3780] at e3778
  have he3781 : F3777 q3728 = .inr (17, [.ref q3729, .ref q3730, .int p3734, .int p3735]) := (n3779 q3728 (fun h => hq3771 (h ▸ hmq3728))).trans he3773
  have he3782 : F3777 q3729 = .inr (4, [.int p3736, .ref (D.2 1002 1), .int p3737]) := (n3779 q3729 (fun h => hq3771 (h ▸ hmq3729))).trans he3774
  have he3783 : F3777 q3730 = .inr (20, [.int p3738, .int p3739, .int p3740, .int p3741, .int p3742, .int p3743, .int p3744]) := (n3779 q3730 (fun h => hq3771 (h ▸ hmq3730))).trans he3775
  have he3784 : F3777 q3727 = .inr (4, [.int p3732, .ref q3756, .int p3733]) := (n3779 q3727 (fun h => hq3771 (h ▸ hmq3727))).trans he3763
  have he3785 : F3777 q3756 = .inl (I (.object "java/lang/Object"), n3757, .inr (.inr (.inr (.inr f3780)))) := e3778
  have hfr3786 : rFr [q3727] P3725 F3726 F3777 := rFr_newp hq3771 hfr3776 n3779
  refine G_aload_n 1 dr_cJx4a65c_add_72be8_15 rfl ?_
  refine G_iload_n 3 dr_cJx4a65c_add_72be8_16 rfl ?_
  refine G_iconst 1 dr_cJx4a65c_add_72be8_17 (by decide +kernel) ?_
  refine G_iadd dr_cJx4a65c_add_72be8_18 (G_nam fun z3787 hz3787 => ?_)
  have ez3787 : z3787.toInt = p3731.toInt + 1 := by rw [gI_add hz3787 bp3731' (gBl (show Int32.toInt 1 = 1 by decide)) (by decide) (by decide), show Int32.toInt 1 = 1 from by decide]
  have bz3787 : gB z3787 1 1 := gB_add (gI_add hz3787 bp3731' (gBl (show Int32.toInt 1 = 1 by decide)) (by decide) (by decide)) bp3731' (gBl (show Int32.toInt 1 = 1 by decide)) (by decide) (by decide)
  refine Gp_put 2 hm3767 he3784 dr_cJx4a65c_add_72be8_19 (gk_Jx4a65c D I) (Nat.le_of_ble_eq_true rfl) wr_7_18 rfl rfl rfl (Nat.le_of_ble_eq_true rfl) (fun F3788 e3789 n3790 => ?_)
  have he3791 : F3788 q3728 = .inr (17, [.ref q3729, .ref q3730, .int p3734, .int p3735]) := (n3790 q3728 (rn_oo he3781 he3784 (by decide))).trans he3781
  have he3792 : F3788 q3729 = .inr (4, [.int p3736, .ref (D.2 1002 1), .int p3737]) := (n3790 q3729 (Ne.symm hneq3727q3729)).trans he3782
  have he3793 : F3788 q3730 = .inr (20, [.int p3738, .int p3739, .int p3740, .int p3741, .int p3742, .int p3743, .int p3744]) := (n3790 q3730 (rn_oo he3783 he3784 (by decide))).trans he3783
  have he3794 : F3788 q3756 = .inl (I (.object "java/lang/Object"), n3757, .inr (.inr (.inr (.inr f3780)))) := (n3790 q3756 (fun h => hq3771 (h ▸ hmq3727))).trans he3785
  have he3795 : F3788 q3727 = .inr (4, [.int p3732, .ref q3756, .int z3787]) := e3789
  have hfr3796 : rFr [q3727] P3725 F3726 F3788 := rFr_put' List.mem_cons_self hfr3786 n3790
  exact G_vretA dr_cJx4a65c_add_72be8_22 rfl (Nat.le_of_ble_eq_true rfl) (Nat.le_of_ble_eq_true rfl) ⟨P3759, F3788, z3787, q3756, n3757, f3780, rfl, rfl, hsb3772, hfr3796, he3791, he3792, he3793, he3795, he3794, hm3765, hq3771, (Nat.le_of_ble_eq_true rfl), (Nat.le_of_ble_eq_true rfl), bz3787, (by omega), (rI_add (f := fun _ => none) (m := 0) (fun _ _ => rfl) hf3780 (by omega) (by omega)).2, (rX_none (rSrcX_up hf3780 rSrc_none)), (by omega)⟩
abbrev ky_3715_ArrayList_add : gKey := (cJx4a65c_add_9ea2d, 2, "java/util/ArrayList", (some FieldType.boolean), [], "add", fun _ _ => True)
def pp_3715_ArrayList_add (D : va_G) (I : FieldType → ClassId) (P3695 : List Nat) (F3696 : Nat → va_E) (q3697 : Nat) (q3698 : Nat) (q3699 : Nat) (q3700 : Nat) (p3701 : Int32) (p3702 : Int32) (p3703 : Int32) (p3704 : Int32) (p3705 : Int32) (p3706 : Int32) (p3707 : Int32) (p3708 : Int32) (p3709 : Int32) (p3710 : Int32) (p3711 : Int32) (p3712 : Int32) (p3713 : Int32) : Option Value → va_W → Nat → Nat → Prop := fun r w dc ds => ∃ (P3839 : List Nat) (F3840 : Nat → va_E) (o3834 : Int32) (o3835 : Int32) (q3836 : Nat) (n3837 : Nat) (f3838 : Nat → Option Nat), r = some (.int 1) ∧ w = va_pl P3839 F3840 ∧ rSub P3695 P3839 ∧ rFr [q3697] P3695 F3696 F3840 ∧ F3840 q3698 = .inr (17, [.ref q3699, .ref q3700, .int p3703, .int p3704]) ∧ F3840 q3699 = .inr (4, [.int p3705, .ref (D.2 1002 1), .int p3706]) ∧ F3840 q3700 = .inr (20, [.int p3707, .int p3708, .int p3709, .int p3710, .int p3711, .int p3712, .int p3713]) ∧ F3840 q3697 = .inr (4, [.int o3834, .ref q3836, .int o3835]) ∧ F3840 q3836 = .inl (I (.object "java/lang/Object"), n3837, .inr (.inr (.inr (.inr f3838)))) ∧ q3836 ∈ P3839 ∧ q3836 ∉ P3695 ∧ dc ≤ 1 ∧ ds ≤ 10 ∧ gB o3835 1 1 ∧ o3835.toInt = p3702.toInt + 1 ∧ f3838 p3702.toInt.toNat = some q3698 ∧ (∀ j w, f3838 j = some w → w = q3698) ∧ (n3837 : Int) = 10
set_option maxRecDepth 100000 in
set_option maxHeartbeats 4000000 in
theorem cp_3715_ArrayList_add (l : Launch) (hl0 : l.stackTraces = false) (D : va_G) (I : FieldType → ClassId) (P3695 : List Nat) (F3696 : Nat → va_E) (q3697 : Nat) (q3698 : Nat) (q3699 : Nat) (q3700 : Nat) (p3701 : Int32) (p3702 : Int32) (p3703 : Int32) (p3704 : Int32) (p3705 : Int32) (p3706 : Int32) (p3707 : Int32) (p3708 : Int32) (p3709 : Int32) (p3710 : Int32) (p3711 : Int32) (p3712 : Int32) (p3713 : Int32) (hmq3697 : q3697 ∈ P3695) (hmq3698 : q3698 ∈ P3695) (hmq3699 : q3699 ∈ P3695) (hmq3700 : q3700 ∈ P3695) (heq3697 : F3696 q3697 = .inr (4, [.int p3701, .ref (D.2 1002 1), .int p3702])) (heq3698 : F3696 q3698 = .inr (17, [.ref q3699, .ref q3700, .int p3703, .int p3704])) (heq3699 : F3696 q3699 = .inr (4, [.int p3705, .ref (D.2 1002 1), .int p3706])) (heq3700 : F3696 q3700 = .inr (20, [.int p3707, .int p3708, .int p3709, .int p3710, .int p3711, .int p3712, .int p3713])) (hneq3697q3699 : q3697 ≠ q3699) (bp3702 : gB p3702 0 16777216) (bp3703 : gB p3703 0 39) (bp3704 : gB p3704 0 39) (bp3706 : gB p3706 0 16777216) (bp3707 : gB p3707 0 32) (bp3708 : gB p3708 0 1999) (bp3711 : gB p3711 0 1999) (bp3712 : gB p3712 0 1) (bp3713 : gB p3713 0 1) (x3714 : p3702.toInt = 0) : CtA (gV D I) l yJx4a65c_add_9ea2d cJx4a65c_add_9ea2d 2 (some FieldType.boolean) 4 80 1 10 [.ref q3697, .ref q3698] (va_pl P3695 F3696) (pp_3715_ArrayList_add D I P3695 F3696 q3697 q3698 q3699 q3700 p3701 p3702 p3703 p3704 p3705 p3706 p3707 p3708 p3709 p3710 p3711 p3712 p3713) gNA := by
  refine CtA_ofF hl0 (by decide +kernel) (Nat.le_of_ble_eq_true rfl) ?_
  have bp3701 := gB_any p3701
  have bp3705 := gB_any p3705
  have bp3709 := gB_any p3709
  have bp3710 := gB_any p3710
  refine G_aload_n 0 dr_cJx4a65c_add_9ea2d_0 rfl ?_
  refine G_dup dr_cJx4a65c_add_9ea2d_1 rfl ?_
  refine Gp_getS 0 hmq3697 heq3697 dr_cJx4a65c_add_9ea2d_2 (gk_Jx4a65c D I) (Nat.le_of_ble_eq_true rfl) wr_7_20 wr_7_21 rfl ?_
  refine G_iconst 1 dr_cJx4a65c_add_9ea2d_5 (by decide +kernel) ?_
  refine G_iadd dr_cJx4a65c_add_9ea2d_6 (G_nam fun z3716 hz3716 => ?_)
  have bz3716 : gB z3716 (-2147483648) 2147483647 := gB_any z3716
  refine Gp_putS 0 hmq3697 heq3697 dr_cJx4a65c_add_9ea2d_7 (gk_Jx4a65c D I) (Nat.le_of_ble_eq_true rfl) wr_7_20 wr_7_21 rfl rfl rfl (Nat.le_of_ble_eq_true rfl) (fun F3717 e3718 n3719 => ?_)
  have he3720 : F3717 q3698 = .inr (17, [.ref q3699, .ref q3700, .int p3703, .int p3704]) := (n3719 q3698 (rn_oo heq3698 heq3697 (by decide))).trans heq3698
  have he3721 : F3717 q3699 = .inr (4, [.int p3705, .ref (D.2 1002 1), .int p3706]) := (n3719 q3699 (Ne.symm hneq3697q3699)).trans heq3699
  have he3722 : F3717 q3700 = .inr (20, [.int p3707, .int p3708, .int p3709, .int p3710, .int p3711, .int p3712, .int p3713]) := (n3719 q3700 (rn_oo heq3700 heq3697 (by decide))).trans heq3700
  have he3723 : F3717 q3697 = .inr (4, [.int z3716, .ref (D.2 1002 1), .int p3702]) := e3718
  have hfr3724 : rFr [q3697] P3695 F3696 F3717 := rFr_put (rFr_rf (W := []) (P := P3695) (F := F3696)) n3719
  refine G_aload_n 0 dr_cJx4a65c_add_9ea2d_10 rfl ?_
  refine G_aload_n 1 dr_cJx4a65c_add_9ea2d_11 rfl ?_
  refine G_aload_n 0 dr_cJx4a65c_add_9ea2d_12 rfl ?_
  refine Gp_get 1 hmq3697 he3723 dr_cJx4a65c_add_9ea2d_13 (gk_Jx4a65c D I) (Nat.le_of_ble_eq_true rfl) wr_7_17 rfl ?_
  refine G_aload_n 0 dr_cJx4a65c_add_9ea2d_16 rfl ?_
  refine Gp_get 2 hmq3697 he3723 dr_cJx4a65c_add_9ea2d_17 (gk_Jx4a65c D I) (Nat.le_of_ble_eq_true rfl) wr_7_18 rfl ?_
  refine Gw_callV (As := [.ref q3698, .ref (D.2 1002 1), .int p3702]) (gV_ok D I) (cp_3747_ArrayList_add l hl0 D I P3695 F3717 q3697 q3698 q3699 q3700 p3702 z3716 p3702 p3703 p3704 p3705 p3706 p3707 p3708 p3709 p3710 p3711 p3712 p3713 hmq3697 hmq3698 hmq3699 hmq3700 he3723 he3720 he3721 he3722 hneq3697q3699 bp3702 bp3702 bp3703 bp3704 bp3706 bp3707 bp3708 bp3711 bp3712 bp3713 (by omega) (by omega)) dr_cJx4a65c_add_9ea2d_20 ⟨wr_10_7, wr_1_18, wr_10_10, by decide, rfl, (Nat.le_of_ble_eq_true rfl), (Nat.le_of_ble_eq_true rfl)⟩ wr_10_9 wr_p_85 hmq3697 he3723 rfl (show 0 + 1 ≤ 1 by first | omega | decide) (show 0 + 10 ≤ 10 by first | omega | decide) (Nat.le_of_ble_eq_true rfl) (fun r3806 w3807 dc3803 ds3804 hp3805 => ?_) (fun _ _ _ _ _ z => z.elim)
  obtain ⟨P3816, F3817, o3808, q3809, n3810, f3811, rfl, rfl, hsb3818, hfr3819, he3820, he3821, he3822, he3823, he3824, hm3825, hq3826, hdc, hds, bo3808, x3812, x3813, x3814, x3815⟩ := hp3805
  have hm3827 : q3697 ∈ P3816 := hsb3818 q3697 hmq3697
  have hm3828 : q3698 ∈ P3816 := hsb3818 q3698 hmq3698
  have hm3829 : q3699 ∈ P3816 := hsb3818 q3699 hmq3699
  have hm3830 : q3700 ∈ P3816 := hsb3818 q3700 hmq3700
  have hq3831 : q3809 ∉ P3695 := fun z => hq3826 ((rSub_rf (P := P3695)) q3809 z)
  have hsb3832 : rSub P3695 P3816 := rSub_tr (rSub_rf (P := P3695)) hsb3818
  have hfr3833 : rFr [q3697] P3695 F3696 F3817 := rFr_call (rSub_rf (P := P3695)) hfr3724 hfr3819 (fun b hb hn => ⟨(nm_c (fun e => hn (e ▸ List.mem_cons_self)) nm_n), (nm_c (fun e => hn (e ▸ List.mem_cons_self)) nm_n)⟩)
  change G _ _ _ _ _ _ _ _ _ _ _
  refine G_widen (cs' := 1) (sl' := 10) (by omega) (by omega) ?_
  refine G_iconst 1 dr_cJx4a65c_add_9ea2d_23 (by decide +kernel) ?_
  exact G_zretA FieldType.boolean dr_cJx4a65c_add_9ea2d_24 rfl rfl (Nat.le_of_ble_eq_true rfl) (Nat.le_of_ble_eq_true rfl) ⟨P3816, F3817, z3716, o3808, q3809, n3810, f3811, rfl, rfl, hsb3832, hfr3833, he3820, he3821, he3822, he3823, he3824, hm3825, hq3831, (Nat.le_of_ble_eq_true rfl), (Nat.le_of_ble_eq_true rfl), bo3808, (by omega), (by assumption), (by assumption), (by omega)⟩
abbrev ky_3643_Code_block : gKey := (cX13_block, 2, "SpillForgeModel$Code", (some (FieldType.object "SpillForgeModel$Block")), [], "block", fun _ _ => True)
def pp_3643_Code_block (D : va_G) (I : FieldType → ClassId) (P3632 : List Nat) (F3633 : Nat → va_E) (q3634 : Nat) (q3635 : Nat) (qo3636 : Nat) (p3637 : Int32) (p3638 : Int32) (p3639 : Int32) (p3640 : Int32) : Option Value → va_W → Nat → Nat → Prop := fun r w dc ds => ∃ (P3919 : List Nat) (F3920 : Nat → va_E) (o3909 : Int32) (q3910 : Nat) (o3911 : Int32) (o3912 : Int32) (q3913 : Nat) (o3914 : Int32) (q3915 : Nat) (q3916 : Nat) (n3917 : Nat) (f3918 : Nat → Option Nat), r = some (.ref q3910) ∧ w = va_pl P3919 F3920 ∧ rSub P3632 P3919 ∧ rFr [q3634, q3635] P3632 F3633 F3920 ∧ F3920 q3634 = .inr (18, [.ref q3635, .ref qo3636, .int p3637, .int o3909]) ∧ F3920 q3910 = .inr (17, [.ref q3913, .ref q3915, .int 0, .int 0]) ∧ F3920 q3915 = .inr (20, [.int 0, .int 0, .int 0, .int 0, .int 0, .int 0, .int 0]) ∧ F3920 q3635 = .inr (4, [.int o3911, .ref q3916, .int o3912]) ∧ F3920 q3916 = .inl (I (.object "java/lang/Object"), n3917, .inr (.inr (.inr (.inr f3918)))) ∧ F3920 q3913 = .inr (4, [.int o3914, .ref (D.2 1002 1), .int 0]) ∧ q3910 ∈ P3919 ∧ q3910 ∉ P3632 ∧ q3913 ∈ P3919 ∧ q3913 ∉ P3632 ∧ q3915 ∈ P3919 ∧ q3915 ∉ P3632 ∧ q3916 ∈ P3919 ∧ q3916 ∉ P3632 ∧ dc ≤ 4 ∧ ds ≤ 24 ∧ gB o3909 1 1000001 ∧ gB o3912 1 1 ∧ o3909.toInt = p3638.toInt + 1 ∧ o3912.toInt = p3640.toInt + 1 ∧ f3918 p3640.toInt.toNat = some q3910 ∧ (∀ j w, f3918 j = some w → w = q3910) ∧ (n3917 : Int) = 10
set_option maxRecDepth 100000 in
set_option maxHeartbeats 4000000 in
theorem cp_3643_Code_block (l : Launch) (hl0 : l.stackTraces = false) (D : va_G) (I : FieldType → ClassId) (P3632 : List Nat) (F3633 : Nat → va_E) (q3634 : Nat) (q3635 : Nat) (qo3636 : Nat) (p3637 : Int32) (p3638 : Int32) (p3639 : Int32) (p3640 : Int32) (hmq3634 : q3634 ∈ P3632) (hmq3635 : q3635 ∈ P3632) (heq3634 : F3633 q3634 = .inr (18, [.ref q3635, .ref qo3636, .int p3637, .int p3638])) (heq3635 : F3633 q3635 = .inr (4, [.int p3639, .ref (D.2 1002 1), .int p3640])) (bp3637 : gB p3637 0 1000000) (bp3638 : gB p3638 0 1000000) (bp3640 : gB p3640 0 1000000) (x3641 : p3638.toInt = p3640.toInt) (x3642 : p3640.toInt = 0) : CtA (gV D I) l yX13_block cX13_block 2 (some (FieldType.object "SpillForgeModel$Block")) 5 101 4 24 [.ref q3634] (va_pl P3632 F3633) (pp_3643_Code_block D I P3632 F3633 q3634 q3635 qo3636 p3637 p3638 p3639 p3640) gNA := by
  refine CtA_of hl0 (by decide) (Nat.le_of_ble_eq_true rfl) ?_
  have bp3639 := gB_any p3639
  refine G_aload_n 0 dr_cX13_block_0 rfl ?_
  refine Gp_get 3 hmq3634 heq3634 dr_cX13_block_1 (gk_X13 D I) (Nat.le_of_ble_eq_true rfl) wr_7_33 rfl ?_
  refine G_aload_n 0 dr_cX13_block_4 rfl ?_
  refine Gp_get 0 hmq3634 heq3634 dr_cX13_block_5 (gk_X13 D I) (Nat.le_of_ble_eq_true rfl) wr_7_30 rfl ?_
  refine Gw_callV (As := []) (gV_ok D I) (cp_2702_ArrayList_size l hl0 D I P3632 F3633 q3635 p3639 p3640 hmq3635 heq3635 (gB_w bp3640 (by decide) (by decide))) dr_cX13_block_8 ⟨wr_9_157, wr_1_18, wr_9_160, by decide, rfl, (Nat.le_of_ble_eq_true rfl), (Nat.le_of_ble_eq_true rfl)⟩ wr_9_158 wr_9_159 hmq3635 heq3635 rfl (show 0 + 0 ≤ 4 by first | omega | decide) (show 0 + 0 ≤ 24 by first | omega | decide) (Nat.le_of_ble_eq_true rfl) (fun r3647 w3648 dc3644 ds3645 hp3646 => ?_) (fun _ _ _ _ _ z => z.elim)
  obtain ⟨rfl, rfl, hdc, hds⟩ := hp3646
  change G _ _ _ _ _ _ _ (.int p3640 :: _) _ _ _
  refine G_widen (cs' := 0) (sl' := 0) (by omega) (by omega) ?_
  refine G_icmp_ne 29 dr_cX13_block_11 (by decide +kernel) (fun hc => absurd (show False by have := gC_ne hc; omega) not_false) (fun hc3649 => ?_)
  have r3651 : p3638.toInt = p3640.toInt := gC_eq hc3649
  refine G_aload_n 0 dr_cX13_block_14 rfl ?_
  refine Gp_get 0 hmq3634 heq3634 dr_cX13_block_15 (gk_X13 D I) (Nat.le_of_ble_eq_true rfl) wr_7_30 rfl ?_
  refine G_new [.null, .null, .int 0, .int 0] dr_cX13_block_18 (gk_X12 D I) wr_9_161 wr_9_162 wr_1_38 (gfs_X12) (show 0 + 1 ≤ 4 by first | omega | decide) (show 0 + 4 ≤ 24 by first | omega | decide) (fun q3652 => Gp_in (fun P3653 F3654 hq3655 hP3656 e3657 n3658 => ?_))
  refine G_widen (cs' := 1) (sl' := 4) (by omega) (by omega) ?_
  have he3659 : F3654 q3634 = .inr (18, [.ref q3635, .ref qo3636, .int p3637, .int p3638]) := (n3658 q3634 (fun h => hq3655 (h ▸ hmq3634))).trans heq3634
  have he3660 : F3654 q3635 = .inr (4, [.int p3639, .ref (D.2 1002 1), .int p3640]) := (n3658 q3635 (fun h => hq3655 (h ▸ hmq3635))).trans heq3635
  have he3661 : F3654 q3652 = .inr (17, [.null, .null, .int 0, .int 0]) := e3657
  have hm3662 : q3634 ∈ P3653 := (hP3656 q3634).mpr (Or.inl hmq3634)
  have hm3663 : q3635 ∈ P3653 := (hP3656 q3635).mpr (Or.inl hmq3635)
  have hm3664 : q3652 ∈ P3653 := (hP3656 q3652).mpr (Or.inr rfl)
  have hq3665 : q3652 ∉ P3632 := fun z => hq3655 ((rSub_rf (P := P3632)) q3652 z)
  have hfr3666 : rFr [] P3632 F3633 F3654 := rFr_new (rSub_rf (P := P3632)) hq3655 (rFr_rf (W := []) (P := P3632) (F := F3633)) n3658
  have hsb3667 : rSub P3632 P3653 := rSub_new (rSub_rf (P := P3632)) hP3656
  refine G_dup dr_cX13_block_21 rfl ?_
  refine Gw_callIN (As := []) (gV_ok D I) (cp_3029_Block_init l hl0 D I P3653 F3654 q3652 0 0 hm3664 he3661 (gB_w (gBl (show Int32.toInt 0 = 0 by decide)) (by decide) (by decide)) (gB_w (gBl (show Int32.toInt 0 = 0 by decide)) (by decide) (by decide))) dr_cX13_block_22 ⟨(fun _ _ _ h => gn_w 78 rfl h), wr_1_38, wr_9_165, by decide, rfl, (Nat.le_of_ble_eq_true rfl), (Nat.le_of_ble_eq_true rfl)⟩ wr_9_164 rfl (show 1 + 2 ≤ 4 by first | omega | decide) (show 4 + 10 ≤ 24 by first | omega | decide) (Nat.le_of_ble_eq_true rfl) (fun r3671 w3672 dc3668 ds3669 hp3670 => ?_)
  obtain ⟨P3675, F3676, q3673, q3674, rfl, rfl, hsb3677, hfr3678, he3679, he3680, he3681, hm3682, hq3683, hm3684, hq3685, hdc, hds⟩ := hp3670
  have hm3686 : q3634 ∈ P3675 := hsb3677 q3634 hm3662
  have hm3687 : q3635 ∈ P3675 := hsb3677 q3635 hm3663
  have hm3688 : q3652 ∈ P3675 := hsb3677 q3652 hm3664
  have hq3689 : q3673 ∉ P3632 := fun z => hq3683 (hsb3667 q3673 z)
  have hq3690 : q3674 ∉ P3632 := fun z => hq3685 (hsb3667 q3674 z)
  have hsb3691 : rSub P3632 P3675 := rSub_tr hsb3667 hsb3677
  have he3692 : F3676 q3634 = .inr (18, [.ref q3635, .ref qo3636, .int p3637, .int p3638]) := (hfr3678 q3634 hm3662 (nm_c (fun h => hq3665 (h ▸ hmq3634)) nm_n)).trans he3659
  have he3693 : F3676 q3635 = .inr (4, [.int p3639, .ref (D.2 1002 1), .int p3640]) := (hfr3678 q3635 hm3663 (nm_c (fun h => hq3665 (h ▸ hmq3635)) nm_n)).trans he3660
  have hfr3694 : rFr [] P3632 F3633 F3676 := rFr_call hsb3667 hfr3666 hfr3678 (fun b hb hn => ⟨nm_n, (nm_c (fun e => hq3665 (e ▸ hb)) nm_n)⟩)
  change G _ _ _ _ _ _ _ _ _ _ _
  refine G_widen (cs' := 3) (sl' := 14) (by omega) (by omega) ?_
  refine Gw_callV (As := [.ref q3652]) (gV_ok D I) (cp_3715_ArrayList_add l hl0 D I P3675 F3676 q3635 q3652 q3673 q3674 p3639 p3640 0 0 0 0 0 0 0 0 0 0 0 hm3687 hm3688 hm3682 hm3684 he3693 he3679 he3680 he3681 (fun h => hq3689 (h ▸ hmq3635)) (gB_w bp3640 (by decide) (by decide)) (gB_w (gBl (show Int32.toInt 0 = 0 by decide)) (by decide) (by decide)) (gB_w (gBl (show Int32.toInt 0 = 0 by decide)) (by decide) (by decide)) (gB_w (gBl (show Int32.toInt 0 = 0 by decide)) (by decide) (by decide)) (gB_w (gBl (show Int32.toInt 0 = 0 by decide)) (by decide) (by decide)) (gB_w (gBl (show Int32.toInt 0 = 0 by decide)) (by decide) (by decide)) (gB_w (gBl (show Int32.toInt 0 = 0 by decide)) (by decide) (by decide)) (gB_w (gBl (show Int32.toInt 0 = 0 by decide)) (by decide) (by decide)) (gB_w (gBl (show Int32.toInt 0 = 0 by decide)) (by decide) (by decide)) (by have qa0 : Int32.toInt 0 = 0 := (by decide); omega)) dr_cX13_block_25 ⟨wr_10_3, wr_1_18, wr_10_6, by decide, rfl, (Nat.le_of_ble_eq_true rfl), (Nat.le_of_ble_eq_true rfl)⟩ wr_10_4 wr_10_5 hm3687 he3693 rfl (show 3 + 1 ≤ 4 by first | omega | decide) (show 14 + 10 ≤ 24 by first | omega | decide) (Nat.le_of_ble_eq_true rfl) (fun r3844 w3845 dc3841 ds3842 hp3843 => ?_) (fun _ _ _ _ _ z => z.elim)
  obtain ⟨P3855, F3856, o3846, o3847, q3848, n3849, f3850, rfl, rfl, hsb3857, hfr3858, he3859, he3860, he3861, he3862, he3863, hm3864, hq3865, hdc, hds, bo3847, x3851, x3852, x3853, x3854⟩ := hp3843
  have hm3866 : q3634 ∈ P3855 := hsb3857 q3634 hm3686
  have hm3867 : q3635 ∈ P3855 := hsb3857 q3635 hm3687
  have hm3868 : q3652 ∈ P3855 := hsb3857 q3652 hm3688
  have hm3869 : q3673 ∈ P3855 := hsb3857 q3673 hm3682
  have hm3870 : q3674 ∈ P3855 := hsb3857 q3674 hm3684
  have hq3871 : q3848 ∉ P3632 := fun z => hq3865 (hsb3691 q3848 z)
  have hsb3872 : rSub P3632 P3855 := rSub_tr hsb3691 hsb3857
  have he3873 : F3856 q3634 = .inr (18, [.ref q3635, .ref qo3636, .int p3637, .int p3638]) := (hfr3858 q3634 hm3686 (nm_c (rn_oo he3692 he3693 (by decide)) nm_n)).trans he3692
  have hfr3874 : rFr [q3635] P3632 F3633 F3856 := rFr_call hsb3691 hfr3694 hfr3858 (fun b hb hn => ⟨nm_n, (nm_c (fun e => hn (e ▸ List.mem_cons_self)) nm_n)⟩)
  have bo3846 := gB_any o3846
  change G _ _ _ _ _ _ _ (.int 1 :: _) _ _ _
  refine G_widen (cs' := 4) (sl' := 24) (by omega) (by omega) ?_
  have hx3875 : f3850 p3638.toNatClampNeg = some q3652 := by show f3850 p3638.toInt.toNat = _; rw [show p3638.toInt = p3640.toInt by omega]; exact x3852
  refine G_pop dr_cX13_block_28 rfl ?_
  refine G_aload_n 0 dr_cX13_block_29 rfl ?_
  refine Gp_get 0 hm3866 he3873 dr_cX13_block_30 (gk_X13 D I) (Nat.le_of_ble_eq_true rfl) wr_7_30 rfl ?_
  refine G_aload_n 0 dr_cX13_block_33 rfl ?_
  refine Gp_get 3 hm3866 he3873 dr_cX13_block_34 (gk_X13 D I) (Nat.le_of_ble_eq_true rfl) wr_7_33 rfl ?_
  refine Gw_callV (As := [.int p3638]) (gV_ok D I) (cp_22_ArrayList_get l hl0 D I P3855 F3856 q3635 q3848 p3638 o3846 o3847 f3850 n3849 q3652 hm3867 hm3864 he3862 he3863 (gB_w bp3638 (by decide) (by decide)) (gB_w bo3847 (by decide) (by decide)) (by have qa0 : Int32.toInt 0 = 0 := (by decide); omega) (by have qa0 : Int32.toInt 0 = 0 := (by decide); omega) (by assumption) (by have qa0 : Int32.toInt 0 = 0 := (by decide); omega)) dr_cX13_block_37 ⟨wr_10_62, wr_1_18, wr_10_65, by decide, rfl, (Nat.le_of_ble_eq_true rfl), (Nat.le_of_ble_eq_true rfl)⟩ wr_10_63 wr_10_64 hm3867 he3862 rfl (show 4 + 0 ≤ 4 by first | omega | decide) (show 24 + 0 ≤ 24 by first | omega | decide) (Nat.le_of_ble_eq_true rfl) (fun r3879 w3880 dc3876 ds3877 hp3878 => ?_) (fun _ _ _ _ _ z => z.elim)
  obtain ⟨rfl, rfl, hdc, hds, ht3881⟩ := hp3878
  change G _ _ _ _ _ _ _ (.ref q3652 :: _) _ _ _
  refine G_widen (cs' := 4) (sl' := 24) (by omega) (by omega) ?_
  refine Gp_cast hm3868 he3859 rfl dr_cX13_block_40 wr_9_161 (gr_cast 0 rfl) ?_
  refine G_astore_n (L' := [(1, .ref q3652), (0, .ref q3634)]) dr_cX13_block_43 (Nat.le_of_ble_eq_true rfl) rfl ?_
  refine G_aload_n 1 dr_cX13_block_44 rfl ?_
  refine G_dup dr_cX13_block_45 rfl ?_
  refine Gp_get 3 hm3866 he3873 dr_cX13_block_46 (gk_X13 D I) (Nat.le_of_ble_eq_true rfl) wr_7_33 rfl ?_
  refine G_iconst 1 dr_cX13_block_49 (by decide +kernel) ?_
  refine G_iadd dr_cX13_block_50 (G_nam fun z3882 hz3882 => ?_)
  have ez3882 : z3882.toInt = p3638.toInt + 1 := by rw [gI_add hz3882 bp3638 (gBl (show Int32.toInt 1 = 1 by decide)) (by decide) (by decide), show Int32.toInt 1 = 1 from by decide]
  have bz3882 : gB z3882 1 1000001 := gB_add (gI_add hz3882 bp3638 (gBl (show Int32.toInt 1 = 1 by decide)) (by decide) (by decide)) bp3638 (gBl (show Int32.toInt 1 = 1 by decide)) (by decide) (by decide)
  refine Gp_put 3 hm3866 he3873 dr_cX13_block_51 (gk_X13 D I) (Nat.le_of_ble_eq_true rfl) wr_7_33 rfl rfl rfl (Nat.le_of_ble_eq_true rfl) (fun F3883 e3884 n3885 => ?_)
  have he3886 : F3883 q3652 = .inr (17, [.ref q3673, .ref q3674, .int 0, .int 0]) := (n3885 q3652 (fun h => hq3665 (h ▸ hmq3634))).trans he3859
  have he3887 : F3883 q3673 = .inr (4, [.int 0, .ref (D.2 1002 1), .int 0]) := (n3885 q3673 (fun h => hq3689 (h ▸ hmq3634))).trans he3860
  have he3888 : F3883 q3674 = .inr (20, [.int 0, .int 0, .int 0, .int 0, .int 0, .int 0, .int 0]) := (n3885 q3674 (fun h => hq3690 (h ▸ hmq3634))).trans he3861
  have he3889 : F3883 q3635 = .inr (4, [.int o3846, .ref q3848, .int o3847]) := (n3885 q3635 (rn_oo he3862 he3873 (by decide))).trans he3862
  have he3890 : F3883 q3848 = .inl (I (.object "java/lang/Object"), n3849, .inr (.inr (.inr (.inr f3850)))) := (n3885 q3848 (fun h => hq3871 (h ▸ hmq3634))).trans he3863
  have he3891 : F3883 q3634 = .inr (18, [.ref q3635, .ref qo3636, .int p3637, .int z3882]) := e3884
  have hfr3892 : rFr [q3634, q3635] P3632 F3633 F3883 := rFr_put hfr3874 n3885
  refine G_aload_n 0 dr_cX13_block_54 rfl ?_
  refine Gp_get 0 hm3868 he3886 dr_cX13_block_55 (gk_X12 D I) (Nat.le_of_ble_eq_true rfl) wr_9_219 rfl ?_
  refine Gw_callV (As := []) (gV_ok D I) (cp_1471_ArrayList_clear l hl0 D I P3855 F3883 q3673 0 0 hm3869 he3887 (gB_w (gBl (show Int32.toInt 0 = 0 by decide)) (by decide) (by decide)) (by have qa0 : Int32.toInt 0 = 0 := (by decide); omega)) dr_cX13_block_58 ⟨wr_10_74, wr_1_18, wr_10_77, by decide, rfl, (Nat.le_of_ble_eq_true rfl), (Nat.le_of_ble_eq_true rfl)⟩ wr_10_75 wr_10_76 hm3869 he3887 rfl (show 4 + 0 ≤ 4 by first | omega | decide) (show 24 + 0 ≤ 24 by first | omega | decide) (Nat.le_of_ble_eq_true rfl) (fun r3896 w3897 dc3893 ds3894 hp3895 => ?_) (fun _ _ _ _ _ z => z.elim)
  obtain ⟨F3899, o3898, rfl, rfl, hfr3901, he3902, hdc, hds⟩ := hp3895
  have he3903 : F3899 q3634 = .inr (18, [.ref q3635, .ref qo3636, .int p3637, .int z3882]) := (hfr3901 q3634 hm3866 (nm_c (fun h => hq3689 (h ▸ hmq3634)) nm_n)).trans he3891
  have he3904 : F3899 q3652 = .inr (17, [.ref q3673, .ref q3674, .int 0, .int 0]) := (hfr3901 q3652 hm3868 (nm_c (rn_oo he3886 he3887 (by decide)) nm_n)).trans he3886
  have he3905 : F3899 q3674 = .inr (20, [.int 0, .int 0, .int 0, .int 0, .int 0, .int 0, .int 0]) := (hfr3901 q3674 hm3870 (nm_c (rn_oo he3888 he3887 (by decide)) nm_n)).trans he3888
  have he3906 : F3899 q3635 = .inr (4, [.int o3846, .ref q3848, .int o3847]) := (hfr3901 q3635 hm3867 (nm_c (fun h => hq3689 (h ▸ hmq3635)) nm_n)).trans he3889
  have he3907 : F3899 q3848 = .inl (I (.object "java/lang/Object"), n3849, .inr (.inr (.inr (.inr f3850)))) := (hfr3901 q3848 hm3864 (nm_c (rn_ao he3890 he3887) nm_n)).trans he3890
  have hfr3908 : rFr [q3634, q3635] P3632 F3633 F3899 := rFr_call hsb3872 hfr3892 hfr3901 (fun b hb hn => ⟨(nm_c (fun e => hn (e ▸ List.mem_cons_self)) (nm_c (fun e => hn (e ▸ (List.mem_cons_of_mem _ List.mem_cons_self))) nm_n)), (nm_c (fun e => hq3689 (e ▸ hb)) nm_n)⟩)
  have bo3898 := gB_any o3898
  change G _ _ _ _ _ _ _ _ _ _ _
  refine G_widen (cs' := 4) (sl' := 24) (by omega) (by omega) ?_
  refine G_aload_n 0 dr_cX13_block_61 rfl ?_
  exact G_aretA (FieldType.object "SpillForgeModel$Block") dr_cX13_block_62 rfl (by first | exact Or.inl ⟨_, rfl⟩ | exact Or.inr ⟨_, rfl⟩) (Or.inr ⟨_, rfl⟩) (Nat.le_of_ble_eq_true rfl) (Nat.le_of_ble_eq_true rfl) ⟨P3855, F3899, z3882, q3652, o3846, o3847, q3673, o3898, q3674, q3848, n3849, f3850, rfl, rfl, hsb3872, hfr3908, he3903, he3904, he3905, he3906, he3907, he3902, hm3868, hq3665, hm3869, hq3689, hm3870, hq3690, hm3864, hq3871, (Nat.le_of_ble_eq_true rfl), (Nat.le_of_ble_eq_true rfl), bz3882, bo3847, (by have qa0 : Int32.toInt 0 = 0 := (by decide); omega), (by have qa0 : Int32.toInt 0 = 0 := (by decide); omega), (by assumption), (by assumption), (by have qa0 : Int32.toInt 0 = 0 := (by decide); omega)⟩
end
