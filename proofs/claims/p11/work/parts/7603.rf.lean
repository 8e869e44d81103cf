theorem dr_cJx4a65c_add_7a177_32 : decode cJx4a65c_add_7a177 32 = .ok (.aload_n 0, 1) := by decide +kernel
theorem dr_cJx4a65c_add_7a177_33 : decode cJx4a65c_add_7a177 33 = .ok (.invokevirtual 129, 3) := by decide +kernel
theorem dr_cJx4a65c_add_7a177_36 : decode cJx4a65c_add_7a177 36 = .ok (.astore 4, 2) := by decide +kernel
theorem dr_cJx4a65c_clear_da8c8_0 : decode cJx4a65c_clear_da8c8 0 = .ok (.aload_n 0, 1) := by decide +kernel
theorem dr_cJx4a65c_clear_da8c8_1 : decode cJx4a65c_clear_da8c8 1 = .ok (.dup, 1) := by decide +kernel
theorem dr_cJx4a65c_clear_da8c8_2 : decode cJx4a65c_clear_da8c8 2 = .ok (.getfield 63, 3) := by decide +kernel
theorem dr_cJx4a65c_clear_da8c8_5 : decode cJx4a65c_clear_da8c8 5 = .ok (.iconst 1, 1) := by decide +kernel
theorem dr_cJx4a65c_clear_da8c8_6 : decode cJx4a65c_clear_da8c8 6 = .ok (.iadd, 1) := by decide +kernel
theorem dr_cJx4a65c_clear_da8c8_7 : decode cJx4a65c_clear_da8c8 7 = .ok (.putfield 63, 3) := by decide +kernel
theorem dr_cJx4a65c_clear_da8c8_10 : decode cJx4a65c_clear_da8c8 10 = .ok (.aload_n 0, 1) := by decide +kernel
theorem dr_cJx4a65c_clear_da8c8_11 : decode cJx4a65c_clear_da8c8 11 = .ok (.getfield 9, 3) := by decide +kernel
theorem dr_cJx4a65c_clear_da8c8_14 : decode cJx4a65c_clear_da8c8 14 = .ok (.astore_n 1, 1) := by decide +kernel
theorem dr_cJx4a65c_clear_da8c8_15 : decode cJx4a65c_clear_da8c8 15 = .ok (.aload_n 0, 1) := by decide +kernel
theorem dr_cJx4a65c_clear_da8c8_16 : decode cJx4a65c_clear_da8c8 16 = .ok (.getfield 48, 3) := by decide +kernel
theorem dr_cJx4a65c_clear_da8c8_19 : decode cJx4a65c_clear_da8c8 19 = .ok (.istore_n 2, 1) := by decide +kernel
theorem dr_cJx4a65c_clear_da8c8_20 : decode cJx4a65c_clear_da8c8 20 = .ok (.aload_n 0, 1) := by decide +kernel
theorem dr_cJx4a65c_clear_da8c8_21 : decode cJx4a65c_clear_da8c8 21 = .ok (.iconst 0, 1) := by decide +kernel
theorem dr_cJx4a65c_clear_da8c8_22 : decode cJx4a65c_clear_da8c8 22 = .ok (.dup_x1, 1) := by decide +kernel
theorem dr_cJx4a65c_clear_da8c8_23 : decode cJx4a65c_clear_da8c8 23 = .ok (.putfield 48, 3) := by decide +kernel
theorem dr_cJx4a65c_clear_da8c8_26 : decode cJx4a65c_clear_da8c8 26 = .ok (.istore_n 3, 1) := by decide +kernel
theorem dr_cJx4a65c_clear_da8c8_27 : decode cJx4a65c_clear_da8c8 27 = .ok (.iload_n 3, 1) := by decide +kernel
theorem dr_cJx4a65c_clear_da8c8_28 : decode cJx4a65c_clear_da8c8 28 = .ok (.iload_n 2, 1) := by decide +kernel
theorem dr_cJx4a65c_clear_da8c8_29 : decode cJx4a65c_clear_da8c8 29 = .ok (.if_icmp .ge 13, 3) := by decide +kernel
theorem dr_cJx4a65c_clear_da8c8_42 : decode cJx4a65c_clear_da8c8 42 = .ok (.return_, 1) := by decide +kernel
theorem dr_cJx4a65c_clear_da8c8_32 : decode cJx4a65c_clear_da8c8 32 = .ok (.aload_n 1, 1) := by decide +kernel
theorem dr_cJx4a65c_clear_da8c8_33 : decode cJx4a65c_clear_da8c8 33 = .ok (.iload_n 3, 1) := by decide +kernel
theorem dr_cJx4a65c_clear_da8c8_34 : decode cJx4a65c_clear_da8c8 34 = .ok (.aconst_null, 1) := by decide +kernel
theorem dr_cJx4a65c_clear_da8c8_35 : decode cJx4a65c_clear_da8c8 35 = .ok (.aastore, 1) := by decide +kernel
theorem dr_cJx4a65c_clear_da8c8_36 : decode cJx4a65c_clear_da8c8 36 = .ok (.iinc 3 1, 3) := by decide +kernel
theorem dr_cJx4a65c_clear_da8c8_39 : decode cJx4a65c_clear_da8c8 39 = .ok (.goto (-12), 3) := by decide +kernel
theorem dr_cJx4a65c_fastRemove_b59b0_0 : decode cJx4a65c_fastRemove_b59b0 0 = .ok (.aload_n 0, 1) := by decide +kernel
theorem dr_cJx4a65c_fastRemove_b59b0_1 : decode cJx4a65c_fastRemove_b59b0 1 = .ok (.dup, 1) := by decide +kernel
theorem dr_cJx4a65c_fastRemove_b59b0_2 : decode cJx4a65c_fastRemove_b59b0 2 = .ok (.getfield 63, 3) := by decide +kernel
theorem dr_cJx4a65c_fastRemove_b59b0_5 : decode cJx4a65c_fastRemove_b59b0 5 = .ok (.iconst 1, 1) := by decide +kernel
theorem dr_cJx4a65c_fastRemove_b59b0_6 : decode cJx4a65c_fastRemove_b59b0 6 = .ok (.iadd, 1) := by decide +kernel
theorem dr_cJx4a65c_fastRemove_b59b0_7 : decode cJx4a65c_fastRemove_b59b0 7 = .ok (.putfield 63, 3) := by decide +kernel
theorem dr_cJx4a65c_fastRemove_b59b0_10 : decode cJx4a65c_fastRemove_b59b0 10 = .ok (.aload_n 0, 1) := by decide +kernel
theorem dr_cJx4a65c_fastRemove_b59b0_11 : decode cJx4a65c_fastRemove_b59b0 11 = .ok (.getfield 48, 3) := by decide +kernel
theorem dr_cJx4a65c_fastRemove_b59b0_14 : decode cJx4a65c_fastRemove_b59b0 14 = .ok (.iconst 1, 1) := by decide +kernel
theorem dr_cJx4a65c_fastRemove_b59b0_15 : decode cJx4a65c_fastRemove_b59b0 15 = .ok (.isub, 1) := by decide +kernel
theorem dr_cJx4a65c_fastRemove_b59b0_16 : decode cJx4a65c_fastRemove_b59b0 16 = .ok (.dup, 1) := by decide +kernel
theorem dr_cJx4a65c_fastRemove_b59b0_17 : decode cJx4a65c_fastRemove_b59b0 17 = .ok (.istore_n 3, 1) := by decide +kernel
theorem dr_cJx4a65c_fastRemove_b59b0_18 : decode cJx4a65c_fastRemove_b59b0 18 = .ok (.iload_n 2, 1) := by decide +kernel
theorem dr_cJx4a65c_fastRemove_b59b0_19 : decode cJx4a65c_fastRemove_b59b0 19 = .ok (.if_icmp .le 15, 3) := by decide +kernel
theorem dr_cJx4a65c_fastRemove_b59b0_34 : decode cJx4a65c_fastRemove_b59b0 34 = .ok (.aload_n 1, 1) := by decide +kernel
theorem dr_cJx4a65c_fastRemove_b59b0_35 : decode cJx4a65c_fastRemove_b59b0 35 = .ok (.aload_n 0, 1) := by decide +kernel
theorem dr_cJx4a65c_fastRemove_b59b0_36 : decode cJx4a65c_fastRemove_b59b0 36 = .ok (.iload_n 3, 1) := by decide +kernel
theorem dr_cJx4a65c_fastRemove_b59b0_37 : decode cJx4a65c_fastRemove_b59b0 37 = .ok (.dup_x1, 1) := by decide +kernel
theorem dr_cJx4a65c_fastRemove_b59b0_38 : decode cJx4a65c_fastRemove_b59b0 38 = .ok (.putfield 48, 3) := by decide +kernel
theorem dr_cJx4a65c_fastRemove_b59b0_41 : decode cJx4a65c_fastRemove_b59b0 41 = .ok (.aconst_null, 1) := by decide +kernel
theorem dr_cJx4a65c_fastRemove_b59b0_42 : decode cJx4a65c_fastRemove_b59b0 42 = .ok (.aastore, 1) := by decide +kernel
theorem dr_cJx4a65c_fastRemove_b59b0_43 : decode cJx4a65c_fastRemove_b59b0 43 = .ok (.return_, 1) := by decide +kernel
theorem dr_cJx4a65c_fastRemove_b59b0_22 : decode cJx4a65c_fastRemove_b59b0 22 = .ok (.aload_n 1, 1) := by decide +kernel
theorem dr_cJx4a65c_fastRemove_b59b0_23 : decode cJx4a65c_fastRemove_b59b0 23 = .ok (.iload_n 2, 1) := by decide +kernel
theorem dr_cJx4a65c_fastRemove_b59b0_24 : decode cJx4a65c_fastRemove_b59b0 24 = .ok (.iconst 1, 1) := by decide +kernel
theorem dr_cJx4a65c_fastRemove_b59b0_25 : decode cJx4a65c_fastRemove_b59b0 25 = .ok (.iadd, 1) := by decide +kernel
theorem dr_cJx4a65c_fastRemove_b59b0_26 : decode cJx4a65c_fastRemove_b59b0 26 = .ok (.aload_n 1, 1) := by decide +kernel
theorem dr_cJx4a65c_fastRemove_b59b0_27 : decode cJx4a65c_fastRemove_b59b0 27 = .ok (.iload_n 2, 1) := by decide +kernel
theorem dr_cJx4a65c_fastRemove_b59b0_28 : decode cJx4a65c_fastRemove_b59b0 28 = .ok (.iload_n 3, 1) := by decide +kernel
theorem dr_cJx4a65c_fastRemove_b59b0_29 : decode cJx4a65c_fastRemove_b59b0 29 = .ok (.iload_n 2, 1) := by decide +kernel
theorem dr_cJx4a65c_fastRemove_b59b0_30 : decode cJx4a65c_fastRemove_b59b0 30 = .ok (.isub, 1) := by decide +kernel
theorem dr_cJx4a65c_fastRemove_b59b0_31 : decode cJx4a65c_fastRemove_b59b0 31 = .ok (.invokestatic 112, 3) := by decide +kernel
theorem dr_cJx4a65c_remove_915e3_0 : decode cJx4a65c_remove_915e3 0 = .ok (.iload_n 1, 1) := by decide +kernel
theorem dr_cJx4a65c_remove_915e3_1 : decode cJx4a65c_remove_915e3 1 = .ok (.aload_n 0, 1) := by decide +kernel
theorem dr_cJx4a65c_remove_915e3_2 : decode cJx4a65c_remove_915e3 2 = .ok (.getfield 48, 3) := by decide +kernel
theorem dr_cJx4a65c_remove_915e3_5 : decode cJx4a65c_remove_915e3 5 = .ok (.invokestatic 118, 3) := by decide +kernel
theorem dr_cJx4a65c_remove_915e3_8 : decode cJx4a65c_remove_915e3 8 = .ok (.pop, 1) := by decide +kernel
theorem dr_cJx4a65c_remove_915e3_9 : decode cJx4a65c_remove_915e3 9 = .ok (.aload_n 0, 1) := by decide +kernel
theorem dr_cJx4a65c_remove_915e3_10 : decode cJx4a65c_remove_915e3 10 = .ok (.getfield 9, 3) := by decide +kernel
theorem dr_cJx4a65c_remove_915e3_13 : decode cJx4a65c_remove_915e3 13 = .ok (.astore_n 2, 1) := by decide +kernel
theorem dr_cJx4a65c_remove_915e3_14 : decode cJx4a65c_remove_915e3 14 = .ok (.aload_n 2, 1) := by decide +kernel
theorem dr_cJx4a65c_remove_915e3_15 : decode cJx4a65c_remove_915e3 15 = .ok (.iload_n 1, 1) := by decide +kernel
theorem dr_cJx4a65c_remove_915e3_16 : decode cJx4a65c_remove_915e3 16 = .ok (.aaload, 1) := by decide +kernel
theorem dr_cJx4a65c_remove_915e3_17 : decode cJx4a65c_remove_915e3 17 = .ok (.astore_n 3, 1) := by decide +kernel
theorem dr_cJx4a65c_remove_915e3_18 : decode cJx4a65c_remove_915e3 18 = .ok (.aload_n 0, 1) := by decide +kernel
theorem dr_cJx4a65c_remove_915e3_19 : decode cJx4a65c_remove_915e3 19 = .ok (.aload_n 2, 1) := by decide +kernel
theorem dr_cJx4a65c_remove_915e3_20 : decode cJx4a65c_remove_915e3 20 = .ok (.iload_n 1, 1) := by decide +kernel
theorem dr_cJx4a65c_remove_915e3_21 : decode cJx4a65c_remove_915e3 21 = .ok (.invokevirtual 144, 3) := by decide +kernel
theorem wr_11_26 : (Jvm.Cond.methodLink "java/util/ArrayList" (144 : Nat) ({ cls := "java/util/ArrayList", name := "fastRemove", desc := "([Ljava/lang/Object;I)V" } : Jvm.MethodName)) ∈ gw := gw_11 26 rfl rfl
theorem wr_11_29 : (Jvm.Cond.code ({ cls := "java/util/ArrayList", name := "fastRemove", desc := "([Ljava/lang/Object;I)V" } : Jvm.MethodName) prog_43_method_39_code (4 : Nat) (Option.none : Option Jvm.ClassFile.FieldType)) ∈ gw := gw_11 29 rfl rfl
theorem wr_11_28 : (Jvm.Cond.instanceMethod ({ cls := "java/util/ArrayList", name := "fastRemove", desc := "([Ljava/lang/Object;I)V" } : Jvm.MethodName)) ∈ gw := gw_11 28 rfl rfl
theorem wr_p_103 : Cond.selects "java/util/ArrayList" ⟨"java/util/ArrayList", "fastRemove", "([Ljava/lang/Object;I)V"⟩ ⟨"java/util/ArrayList", "fastRemove", "([Ljava/lang/Object;I)V"⟩ ∈ gw := gw_p _ 103 rfl rfl rfl
theorem dr_cJx4a65c_remove_915e3_24 : decode cJx4a65c_remove_915e3 24 = .ok (.aload_n 3, 1) := by decide +kernel
theorem dr_cJx4a65c_remove_915e3_25 : decode cJx4a65c_remove_915e3 25 = .ok (.areturn, 1) := by decide +kernel
theorem dr_cJxa1e45_init_da8c8_0 : decode cJxa1e45_init_da8c8 0 = .ok (.aload_n 0, 1) := by decide +kernel
theorem dr_cJxa1e45_init_da8c8_1 : decode cJxa1e45_init_da8c8 1 = .ok (.invokespecial 1, 3) := by decide +kernel
theorem wr_7_14 : (Jvm.Cond.methodLink "java/util/AbstractCollection" (1 : Nat) ({ cls := "java/lang/Object", name := "<init>", desc := "()V" } : Jvm.MethodName)) ∈ gw := gw_7 14 rfl rfl
theorem wr_1_51 : (Jvm.Cond.instanceMethod ({ cls := "java/lang/Object", name := "<init>", desc := "()V" } : Jvm.MethodName)) ∈ gw := gw_1 51 rfl rfl
theorem wr_1_52 : (Jvm.Cond.code ({ cls := "java/lang/Object", name := "<init>", desc := "()V" } : Jvm.MethodName) object_method_1_code (1 : Nat) (Option.none : Option Jvm.ClassFile.FieldType)) ∈ gw := gw_1 52 rfl rfl
theorem dr_cJxa1e45_init_da8c8_4 : decode cJxa1e45_init_da8c8 4 = .ok (.return_, 1) := by decide +kernel
theorem dr_cJxc12de_init_da8c8_0 : decode cJxc12de_init_da8c8 0 = .ok (.aload_n 0, 1) := by decide +kernel
theorem dr_cJxc12de_init_da8c8_1 : decode cJxc12de_init_da8c8 1 = .ok (.invokespecial 1, 3) := by decide +kernel
theorem wr_7_11 : (Jvm.Cond.methodLink "java/util/AbstractList" (1 : Nat) ({ cls := "java/util/AbstractCollection", name := "<init>", desc := "()V" } : Jvm.MethodName)) ∈ gw := gw_7 11 rfl rfl
theorem wr_1_16 : (Jvm.Cond.initialized "java/util/AbstractCollection") ∈ gw := gw_1 16 rfl rfl
theorem wr_7_13 : (Jvm.Cond.code ({ cls := "java/util/AbstractCollection", name := "<init>", desc := "()V" } : Jvm.MethodName) prog_41_method_1_code (1 : Nat) (Option.none : Option Jvm.ClassFile.FieldType)) ∈ gw := gw_7 13 rfl rfl
theorem wr_7_12 : (Jvm.Cond.instanceMethod ({ cls := "java/util/AbstractCollection", name := "<init>", desc := "()V" } : Jvm.MethodName)) ∈ gw := gw_7 12 rfl rfl
theorem dr_cJxc12de_init_da8c8_4 : decode cJxc12de_init_da8c8 4 = .ok (.aload_n 0, 1) := by decide +kernel
theorem dr_cJxc12de_init_da8c8_5 : decode cJxc12de_init_da8c8 5 = .ok (.iconst 0, 1) := by decide +kernel
theorem dr_cJxc12de_init_da8c8_6 : decode cJxc12de_init_da8c8 6 = .ok (.putfield 7, 3) := by decide +kernel
theorem wr_7_19 : (Jvm.Cond.fieldLink "java/util/AbstractList" (7 : Nat) "java/util/AbstractList" "modCount" "I") ∈ gw := gw_7 19 rfl rfl
theorem dr_cJxc12de_init_da8c8_9 : decode cJxc12de_init_da8c8 9 = .ok (.return_, 1) := by decide +kernel
abbrev ky_1142_ArrayList_add : gKey := (cJx4a65c_add_7a177, 5, "java/util/ArrayList", none, [], "add", fun _ _ => True)
def pp_1142_ArrayList_add (D : va_G) (I : FieldType → ClassId) (P1119 : List Nat) (F1120 : Nat → va_E) (q1121 : Nat) (q1122 : Nat) (q1123 : Nat) (p1124 : Int32) (p1125 : Int32) (p1126 : Int32) (p1127 : Int32) (p1128 : Int32) (p1129 : Int32) (p1130 : Int32) (p1131 : Int32) (p1132 : Int32) (p1133 : Int32) (f1134 : Nat → Option Nat) (n1135 : Nat) : Option Value → va_W → Nat → Nat → Prop := fun r w dc ds => ∃ (P1221 : List Nat) (F1222 : Nat → va_E) (o1216 : Int32) (o1217 : Int32) (q1218 : Nat) (n1219 : Nat) (f1220 : Nat → Option Nat), r = none ∧ w = va_pl P1221 F1222 ∧ rSub P1119 P1221 ∧ rFr [q1121] P1119 F1120 F1222 ∧ F1222 q1122 = .inr (20, [.int p1127, .int p1128, .int p1129, .int p1130, .int p1131, .int p1132, .int p1133]) ∧ F1222 q1121 = .inr (4, [.int o1216, .ref q1218, .int o1217]) ∧ F1222 q1218 = .inl (I (.object "java/lang/Object"), n1219, .inr (.inr (.inr (.inr f1220)))) ∧ q1218 ∈ P1221 ∧ q1218 ∉ P1119 ∧ dc ≤ 1 ∧ ds ≤ n1135 + n1135 / 2 + 1 ∧ gB o1217 1 16777217 ∧ o1217.toInt = p1126.toInt + 1 ∧ ((∀ j : Nat, (j : Int) < p1124.toInt → f1220 j = f1134 j) ∧ f1220 p1124.toInt.toNat = some q1122 ∧ ∀ j : Nat, p1124.toInt ≤ (j : Int) → (j : Int) < p1126.toInt → f1220 (j + 1) = f1134 j) ∧ rSrcX f1220 f1134 q1122 ∧ ((n1219 : Int) ≤ (n1135 : Int) + (n1135 : Int) / 2 + 1 ∧ (n1135 : Int) + 1 ≤ (n1219 : Int) ∧ (n1135 : Int) + (n1135 : Int) / 2 ≤ (n1219 : Int))
set_option maxRecDepth 100000 in
set_option maxHeartbeats 4000000 in
theorem cp_1142_ArrayList_add (l : Launch) (hl0 : l.stackTraces = false) (D : va_G) (I : FieldType → ClassId) (P1119 : List Nat) (F1120 : Nat → va_E) (q1121 : Nat) (q1122 : Nat) (q1123 : Nat) (p1124 : Int32) (p1125 : Int32) (p1126 : Int32) (p1127 : Int32) (p1128 : Int32) (p1129 : Int32) (p1130 : Int32) (p1131 : Int32) (p1132 : Int32) (p1133 : Int32) (f1134 : Nat → Option Nat) (n1135 : Nat) (hmq1121 : q1121 ∈ P1119) (hmq1122 : q1122 ∈ P1119) (hmq1123 : q1123 ∈ P1119) (heq1121 : F1120 q1121 = .inr (4, [.int p1125, .ref q1123, .int p1126])) (heq1122 : F1120 q1122 = .inr (20, [.int p1127, .int p1128, .int p1129, .int p1130, .int p1131, .int p1132, .int p1133])) (heq1123 : F1120 q1123 = .inl (I (.object "java/lang/Object"), n1135, .inr (.inr (.inr (.inr f1134))))) (bp1124 : gB p1124 0 16777216) (bp1126 : gB p1126 0 16777216) (bp1127 : gB p1127 0 32) (bp1128 : gB p1128 0 1999) (bp1131 : gB p1131 0 1999) (bp1132 : gB p1132 0 1) (bp1133 : gB p1133 0 1) (x1136 : 0 < (n1135 : Int)) (x1137 : (n1135 : Int) ≤ 1000000) (x1138 : p1126.toInt = (n1135 : Int)) (x1139 : p1124.toInt ≤ p1126.toInt) (x1140 : rEl P1119 F1120 f1134) (x1141 : ((n1135 : Int) ≤ 16777216)) : CtA (gV D I) l yJx4a65c_add_7a177 cJx4a65c_add_7a177 5 none 5 105 1 (n1135 + n1135 / 2 + 1) [.ref q1121, .int p1124, .ref q1122] (va_pl P1119 F1120) (pp_1142_ArrayList_add D I P1119 F1120 q1121 q1122 q1123 p1124 p1125 p1126 p1127 p1128 p1129 p1130 p1131 p1132 p1133 f1134 n1135) gNA := by
  refine CtA_ofF hl0 (by decide +kernel) (Nat.le_of_ble_eq_true rfl) ?_
  have bp1125 := gB_any p1125
  have bp1129 := gB_any p1129
  have bp1130 := gB_any p1130
  refine G_aload_n 0 dr_cJx4a65c_add_7a177_0 rfl ?_
  refine G_iload_n 1 dr_cJx4a65c_add_7a177_1 rfl ?_
  refine Gw_callV (As := [.int p1124]) (gV_ok D I) (cp_1067_ArrayList_rangeCheckForAdd l hl0 D I P1119 F1120 q1121 q1123 p1124 p1125 p1126 f1134 n1135 hmq1121 hmq1123 heq1121 heq1123 bp1124 bp1126 (by omega) (by omega)) dr_cJx4a65c_add_7a177_2 ⟨wr_10_211, wr_1_18, wr_10_214, by decide, rfl, (Nat.le_of_ble_eq_true rfl), (Nat.le_of_ble_eq_true rfl)⟩ wr_10_213 wr_p_97 hmq1121 heq1121 rfl (show 0 + 0 ≤ 1 by first | omega | decide) (show 0 + 0 ≤ (n1135 + n1135 / 2 + 1) by first | omega | decide) (Nat.le_of_ble_eq_true rfl) (fun r1146 w1147 dc1143 ds1144 hp1145 => ?_) (fun _ _ _ _ _ z => z.elim)
  obtain ⟨rfl, rfl, hdc, hds⟩ := hp1145
  change G _ _ _ _ _ _ _ _ _ _ _
  refine G_widen (cs' := 0) (sl' := 0) (by omega) (by omega) ?_
  refine G_aload_n 0 dr_cJx4a65c_add_7a177_5 rfl ?_
  refine G_dup dr_cJx4a65c_add_7a177_6 rfl ?_
  refine Gp_getS 0 hmq1121 heq1121 dr_cJx4a65c_add_7a177_7 (gk_Jx4a65c D I) (Nat.le_of_ble_eq_true rfl) wr_7_20 wr_7_21 rfl ?_
  refine G_iconst 1 dr_cJx4a65c_add_7a177_10 (by decide +kernel) ?_
  refine G_iadd dr_cJx4a65c_add_7a177_11 (G_nam fun z1148 hz1148 => ?_)
  have bz1148 : gB z1148 (-2147483648) 2147483647 := gB_any z1148
  refine Gp_putS 0 hmq1121 heq1121 dr_cJx4a65c_add_7a177_12 (gk_Jx4a65c D I) (Nat.le_of_ble_eq_true rfl) wr_7_20 wr_7_21 rfl rfl rfl (Nat.le_of_ble_eq_true rfl) (fun F1149 e1150 n1151 => ?_)
  have he1152 : F1149 q1122 = .inr (20, [.int p1127, .int p1128, .int p1129, .int p1130, .int p1131, .int p1132, .int p1133]) := (n1151 q1122 (rn_oo heq1122 heq1121 (by decide))).trans heq1122
  have he1153 : F1149 q1123 = .inl (I (.object "java/lang/Object"), n1135, .inr (.inr (.inr (.inr f1134)))) := (n1151 q1123 (rn_ao heq1123 heq1121)).trans heq1123
  have he1154 : F1149 q1121 = .inr (4, [.int z1148, .ref q1123, .int p1126]) := e1150
  have hfr1155 : rFr [q1121] P1119 F1120 F1149 := rFr_put (rFr_rf (W := []) (P := P1119) (F := F1120)) n1151
  refine G_aload_n 0 dr_cJx4a65c_add_7a177_15 rfl ?_
  refine Gp_get 2 hmq1121 he1154 dr_cJx4a65c_add_7a177_16 (gk_Jx4a65c D I) (Nat.le_of_ble_eq_true rfl) wr_7_18 rfl ?_
  refine G_dup dr_cJx4a65c_add_7a177_19 rfl ?_
  refine G_istore_n (L' := [(3, .int p1126), (0, .ref q1121), (1, .int p1124), (2, .ref q1122)]) dr_cJx4a65c_add_7a177_20 (Nat.le_of_ble_eq_true rfl) rfl ?_
  refine G_aload_n 1 dr_cJx4a65c_add_7a177_21 rfl ?_
  refine Gp_get 1 hmq1121 he1154 dr_cJx4a65c_add_7a177_22 (gk_Jx4a65c D I) (Nat.le_of_ble_eq_true rfl) wr_7_17 rfl ?_
  refine G_dup dr_cJx4a65c_add_7a177_25 rfl ?_
  refine G_astore (L' := [(4, .ref q1123), (3, .int p1126), (0, .ref q1121), (1, .int p1124), (2, .ref q1122)]) dr_cJx4a65c_add_7a177_26 (Nat.le_of_ble_eq_true rfl) rfl ?_
  refine Gp_alen (Int32.ofNat n1135) 4 hmq1123 he1153 dr_cJx4a65c_add_7a177_28 rfl rfl (G_nam fun z1156 hz1156 => ?_)
  have ez1156 : z1156.toInt = (n1135 : Nat) := gI_ofM hz1156 (by omega)
  have bz1156 : gB z1156 0 16777216 := ⟨by omega, by omega⟩
  refine G_icmp_ne 38 dr_cJx4a65c_add_7a177_29 (by decide +kernel) (fun hc => absurd (show False by have := gC_ne hc; omega) not_false) (fun hc1157 => ?_)
  have r1159 : p1126.toInt = z1156.toInt := gC_eq hc1157
  refine G_aload_n 2 dr_cJx4a65c_add_7a177_32 rfl ?_
  refine Gw_callV (As := []) (gV_ok D I) (cp_326_ArrayList_grow l hl0 D I P1119 F1149 q1121 q1123 z1148 p1126 f1134 n1135 hmq1121 hmq1123 he1154 he1153 bp1126 (by omega) (by omega) (by omega) (rEl_frG (rEl_src x1140 rSrc_rf) (rSub_rf (P := P1119)) hfr1155 (rNg_c (rNg_o heq1121 (by decide) (by decide)) rNg_n)) (by omega)) dr_cJx4a65c_add_7a177_33 ⟨wr_10_11, wr_1_18, wr_10_14, by decide, rfl, (Nat.le_of_ble_eq_true rfl), (Nat.le_of_ble_eq_true rfl)⟩ wr_10_13 wr_p_86 hmq1121 he1154 rfl (show 0 + 1 ≤ 1 by first | omega | decide) (show 0 + (n1135 + n1135 / 2 + 1) ≤ (n1135 + n1135 / 2 + 1) by first | omega | decide) (Nat.le_of_ble_eq_true rfl) (fun r1163 w1164 dc1160 ds1161 hp1162 => ?_) (fun _ _ _ _ _ z => z.elim)
  obtain ⟨P1171, F1172, q1165, n1166, f1167, rfl, rfl, hsb1173, hfr1174, he1175, he1176, hm1177, hq1178, hdc, hds, x1168, x1169, x1170⟩ := hp1162
  have hm1179 : q1121 ∈ P1171 := hsb1173 q1121 hmq1121
  have hm1180 : q1122 ∈ P1171 := hsb1173 q1122 hmq1122
  have hm1181 : q1123 ∈ P1171 := hsb1173 q1123 hmq1123
  have hq1182 : q1165 ∉ P1119 := fun z => hq1178 ((rSub_rf (P := P1119)) q1165 z)
  have hsb1183 : rSub P1119 P1171 := rSub_tr (rSub_rf (P := P1119)) hsb1173
  have he1184 : F1172 q1122 = .inr (20, [.int p1127, .int p1128, .int p1129, .int p1130, .int p1131, .int p1132, .int p1133]) := (hfr1174 q1122 hmq1122 (nm_c (rn_oo he1152 he1154 (by decide)) nm_n)).trans he1152
  have he1185 : F1172 q1123 = .inl (I (.object "java/lang/Object"), n1135, .inr (.inr (.inr (.inr f1134)))) := (hfr1174 q1123 hmq1123 (nm_c (rn_ao he1153 he1154) nm_n)).trans he1153
  have hfr1186 : rFr [q1121] P1119 F1120 F1172 := rFr_call (rSub_rf (P := P1119)) hfr1155 hfr1174 (fun b hb hn => ⟨(nm_c (fun e => hn (e ▸ List.mem_cons_self)) nm_n), (nm_c (fun e => hn (e ▸ List.mem_cons_self)) nm_n)⟩)
  change G _ _ _ _ _ _ _ (.ref q1165 :: _) _ _ _
  refine G_widen (cs' := 1) (sl' := n1135 + n1135 / 2 + 1) (by omega) (by omega) ?_
  refine G_astore (L' := [(4, .ref q1165), (3, .int p1126), (0, .ref q1121), (1, .int p1124), (2, .ref q1122)]) dr_cJx4a65c_add_7a177_36 (Nat.le_of_ble_eq_true rfl) rfl ?_
  refine G_aload 0 dr_cJx4a65c_add_7a177_38 rfl ?_
  refine G_iload_n 3 dr_cJx4a65c_add_7a177_40 rfl ?_
  refine G_aload 0 dr_cJx4a65c_add_7a177_41 rfl ?_
  refine G_iload_n 3 dr_cJx4a65c_add_7a177_43 rfl ?_
  refine G_iconst 1 dr_cJx4a65c_add_7a177_44 (by decide +kernel) ?_
  refine G_iadd dr_cJx4a65c_add_7a177_45 (G_nam fun z1187 hz1187 => ?_)
  have ez1187 : z1187.toInt = p1124.toInt + 1 := by rw [gI_add hz1187 bp1124 (gBl (show Int32.toInt 1 = 1 by decide)) (by decide) (by decide), show Int32.toInt 1 = 1 from by decide]
  have bz1187 : gB z1187 1 16777217 := gB_add (gI_add hz1187 bp1124 (gBl (show Int32.toInt 1 = 1 by decide)) (by decide) (by decide)) bp1124 (gBl (show Int32.toInt 1 = 1 by decide)) (by decide) (by decide)
  refine G_iload_n 1 dr_cJx4a65c_add_7a177_46 rfl ?_
  refine G_iload_n 3 dr_cJx4a65c_add_7a177_47 rfl ?_
  refine G_isub dr_cJx4a65c_add_7a177_48 (G_nam fun z1188 hz1188 => ?_)
  have ez1188 : z1188.toInt = p1126.toInt - p1124.toInt := by rw [gI_sub hz1188 bp1126 bp1124 (by decide) (by decide)]
  have bz1188 : gB z1188 (-16777216) 16777216 := gB_sub (gI_sub hz1188 bp1126 bp1124 (by decide) (by decide)) bp1126 bp1124 (by decide) (by decide)
  refine Gp_copyq 4 hm1177 hm1177 he1176 he1176 dr_cJx4a65c_add_7a177_49 wr_10_228 wr_5_113 wr_5_112 wr_1_34 rfl (by omega) (by omega) (by omega) (by omega) (by omega) (fun j _ w hw => rEl_ob (rEl_frG (rEl_src x1140 (rSrc_tr x1169 rSrc_rf)) hsb1183 hfr1186 (rNg_c (rNg_o heq1121 (by decide) (by decide)) rNg_n)) hw) (Nat.le_of_ble_eq_true rfl) (Nat.le_of_ble_eq_true rfl) (fun F1189 e1190 n1191 => ?_)
  obtain ⟨f1192, hf1192⟩ : ∃ z, z = va_cpy f1167 f1167 p1124.toNatClampNeg z1187.toNatClampNeg z1188.toNatClampNeg := ⟨_, rfl⟩
  rw [← hf1192] at e1190
  have he1193 : F1189 q1122 = .inr (20, [.int p1127, .int p1128, .int p1129, .int p1130, .int p1131, .int p1132, .int p1133]) := (n1191 q1122 (fun h => hq1182 (h ▸ hmq1122))).trans he1184
  have he1194 : F1189 q1123 = .inl (I (.object "java/lang/Object"), n1135, .inr (.inr (.inr (.inr f1134)))) := (n1191 q1123 (fun h => hq1182 (h ▸ hmq1123))).trans he1185
  have he1195 : F1189 q1121 = .inr (4, [.int z1148, .ref q1165, .int p1126]) := (n1191 q1121 (fun h => hq1182 (h ▸ hmq1121))).trans he1175
  have he1196 : F1189 q1165 = .inl (I (.object "java/lang/Object"), n1166, .inr (.inr (.inr (.inr f1192)))) := e1190
  have hfr1197 : rFr [q1121] P1119 F1120 F1189 := rFr_newp hq1182 hfr1186 n1191
  refine G_aload 0 dr_cJx4a65c_add_7a177_52 rfl ?_
  refine G_iload_n 3 dr_cJx4a65c_add_7a177_54 rfl ?_
  refine G_aload_n 4 dr_cJx4a65c_add_7a177_55 rfl ?_
  refine Gp_aast 4 hm1177 he1196 dr_cJx4a65c_add_7a177_56 rfl ⟨hm1180, _, _, _, _, _, he1193, rfl, gr_cast 3 rfl⟩ (gB_inr (by omega) (by omega)) (fun F1198 e1199 n1200 => ?_)
  obtain ⟨f1201, hf1201⟩ : ∃ z, z = va_up f1192 p1124.toNatClampNeg (some q1122) := ⟨_, rfl⟩
  rw [← hf1201] at e1199
  have he1202 : F1198 q1122 = .inr (20, [.int p1127, .int p1128, .int p1129, .int p1130, .int p1131, .int p1132, .int p1133]) := (n1200 q1122 (fun h => hq1182 (h ▸ hmq1122))).trans he1193
  have he1203 : F1198 q1123 = .inl (I (.object "java/lang/Object"), n1135, .inr (.inr (.inr (.inr f1134)))) := (n1200 q1123 (fun h => hq1182 (h ▸ hmq1123))).trans he1194
  have he1204 : F1198 q1121 = .inr (4, [.int z1148, .ref q1165, .int p1126]) := (n1200 q1121 (fun h => hq1182 (h ▸ hmq1121))).trans he1195
  have he1205 : F1198 q1165 = .inl (I (.object "java/lang/Object"), n1166, .inr (.inr (.inr (.inr f1201)))) := e1199
  have hfr1206 : rFr [q1121] P1119 F1120 F1198 := rFr_newp hq1182 hfr1197 n1200
  refine G_aload_n 2 dr_cJx4a65c_add_7a177_57 rfl ?_
  refine G_iload_n 1 dr_cJx4a65c_add_7a177_58 rfl ?_
  refine G_iconst 1 dr_cJx4a65c_add_7a177_59 (by decide +kernel) ?_
  refine G_iadd dr_cJx4a65c_add_7a177_60 (G_nam fun z1207 hz1207 => ?_)
  have ez1207 : z1207.toInt = p1126.toInt + 1 := by rw [gI_add hz1207 bp1126 (gBl (show Int32.toInt 1 = 1 by decide)) (by decide) (by decide), show Int32.toInt 1 = 1 from by decide]
  have bz1207 : gB z1207 1 16777217 := gB_add (gI_add hz1207 bp1126 (gBl (show Int32.toInt 1 = 1 by decide)) (by decide) (by decide)) bp1126 (gBl (show Int32.toInt 1 = 1 by decide)) (by decide) (by decide)
  refine Gp_put 2 hm1179 he1204 dr_cJx4a65c_add_7a177_61 (gk_Jx4a65c D I) (Nat.le_of_ble_eq_true rfl) wr_7_18 rfl rfl rfl (Nat.le_of_ble_eq_true rfl) (fun F1208 e1209 n1210 => ?_)
  have he1211 : F1208 q1122 = .inr (20, [.int p1127, .int p1128, .int p1129, .int p1130, .int p1131, .int p1132, .int p1133]) := (n1210 q1122 (rn_oo he1202 he1204 (by decide))).trans he1202
  have he1212 : F1208 q1123 = .inl (I (.object "java/lang/Object"), n1135, .inr (.inr (.inr (.inr f1134)))) := (n1210 q1123 (rn_ao he1203 he1204)).trans he1203
  have he1213 : F1208 q1165 = .inl (I (.object "java/lang/Object"), n1166, .inr (.inr (.inr (.inr f1201)))) := (n1210 q1165 (fun h => hq1182 (h ▸ hmq1121))).trans he1205
  have he1214 : F1208 q1121 = .inr (4, [.int z1148, .ref q1165, .int z1207]) := e1209
  have hfr1215 : rFr [q1121] P1119 F1120 F1208 := rFr_put' List.mem_cons_self hfr1206 n1210
  exact G_vretA dr_cJx4a65c_add_7a177_64 rfl (Nat.le_of_ble_eq_true rfl) (show n1135 + n1135 / 2 + 1 ≤ (n1135 + n1135 / 2 + 1) by omega) ⟨P1171, F1208, z1148, z1207, q1165, n1166, f1201, rfl, rfl, hsb1183, hfr1215, he1211, he1214, he1213, hm1177, hq1182, (Nat.le_of_ble_eq_true rfl), (by omega), bz1207, (by omega), (rI_ins (m := _) (fun j hj => x1168 j (by omega)) hf1192 hf1201 (by omega) (by omega) (by omega) (by omega)), (rSrcX_up hf1201 (rSrc_cpy hf1192 (rSrc_tr x1169 rSrc_rf) (rSrc_tr x1169 rSrc_rf))), (by omega)⟩
abbrev ky_1247_ArrayList_rangeCheckForAdd : gKey := (cJx4a65c_rangeCheckForAdd_d00df, 2, "java/util/ArrayList", none, [], "rangeCheckForAdd", fun _ _ => True)
def pp_1247_ArrayList_rangeCheckForAdd (D : va_G) (I : FieldType → ClassId) (P1240 : List Nat) (F1241 : Nat → va_E) (q1242 : Nat) (p1243 : Int32) (p1244 : Int32) (p1245 : Int32) : Option Value → va_W → Nat → Nat → Prop := fun r w dc ds => r = none ∧ w = va_pl P1240 F1241 ∧ dc ≤ 0 ∧ ds ≤ 0
set_option maxRecDepth 100000 in
set_option maxHeartbeats 4000000 in
theorem cp_1247_ArrayList_rangeCheckForAdd (l : Launch) (hl0 : l.stackTraces = false) (D : va_G) (I : FieldType → ClassId) (P1240 : List Nat) (F1241 : Nat → va_E) (q1242 : Nat) (p1243 : Int32) (p1244 : Int32) (p1245 : Int32) (hmq1242 : q1242 ∈ P1240) (heq1242 : F1241 q1242 = .inr (4, [.int p1244, .ref (D.2 1002 1), .int p1245])) (bp1243 : gB p1243 0 16777216) (bp1245 : gB p1245 0 16777216) (x1246 : p1243.toInt ≤ p1245.toInt) : CtA (gV D I) l yJx4a65c_rangeCheckForAdd_d00df cJx4a65c_rangeCheckForAdd_d00df 2 none 0 0 0 0 [.ref q1242, .int p1243] (va_pl P1240 F1241) (pp_1247_ArrayList_rangeCheckForAdd D I P1240 F1241 q1242 p1243 p1244 p1245) gNA := by
  refine CtA_ofF hl0 (by decide +kernel) (Nat.le_of_ble_eq_true rfl) ?_
  have bp1244 := gB_any p1244
  refine G_iload_n 1 dr_cJx4a65c_rangeCheckForAdd_d00df_0 rfl ?_
  refine G_aload_n 0 dr_cJx4a65c_rangeCheckForAdd_d00df_1 rfl ?_
  refine Gp_get 2 hmq1242 heq1242 dr_cJx4a65c_rangeCheckForAdd_d00df_2 (gk_Jx4a65c D I) (Nat.le_of_ble_eq_true rfl) wr_7_18 rfl ?_
  refine G_icmp_gt 12 dr_cJx4a65c_rangeCheckForAdd_d00df_5 (by decide +kernel) (fun hc => absurd (show False by have := gC_lt hc; omega) not_false) (fun hc1248 => ?_)
  have r1250 : p1243.toInt ≤ p1245.toInt := gC_nlt hc1248
  refine G_iload_n 1 dr_cJx4a65c_rangeCheckForAdd_d00df_8 rfl ?_
  refine G_if_ge 25 dr_cJx4a65c_rangeCheckForAdd_d00df_9 (by decide +kernel) (fun _ => ?_) (fun hc => absurd (show False by have := gj_nleL hc (show Int32.toInt 0 = 0 by decide); omega) not_false)
  exact G_vretA dr_cJx4a65c_rangeCheckForAdd_d00df_25 rfl (Nat.le_of_ble_eq_true rfl) (Nat.le_of_ble_eq_true rfl) ⟨rfl, rfl, (Nat.le_of_ble_eq_true rfl), (Nat.le_of_ble_eq_true rfl)⟩
abbrev ky_1239_ArrayList_add : gKey := (cJx4a65c_add_7a177, 5, "java/util/ArrayList", none, [], "add", fun _ _ => True)
def pp_1239_ArrayList_add (D : va_G) (I : FieldType → ClassId) (P1223 : List Nat) (F1224 : Nat → va_E) (q1225 : Nat) (q1226 : Nat) (p1227 : Int32) (p1228 : Int32) (p1229 : Int32) (p1230 : Int32) (p1231 : Int32) (p1232 : Int32) (p1233 : Int32) (p1234 : Int32) (p1235 : Int32) (p1236 : Int32) : Option Value → va_W → Nat → Nat → Prop := fun r w dc ds => ∃ (P1319 : List Nat) (F1320 : Nat → va_E) (o1314 : Int32) (o1315 : Int32) (q1316 : Nat) (n1317 : Nat) (f1318 : Nat → Option Nat), r = none ∧ w = va_pl P1319 F1320 ∧ rSub P1223 P1319 ∧ rFr [q1225] P1223 F1224 F1320 ∧ F1320 q1226 = .inr (20, [.int p1230, .int p1231, .int p1232, .int p1233, .int p1234, .int p1235, .int p1236]) ∧ F1320 q1225 = .inr (4, [.int o1314, .ref q1316, .int o1315]) ∧ F1320 q1316 = .inl (I (.object "java/lang/Object"), n1317, .inr (.inr (.inr (.inr f1318)))) ∧ q1316 ∈ P1319 ∧ q1316 ∉ P1223 ∧ dc ≤ 1 ∧ ds ≤ 10 ∧ gB o1315 1 1 ∧ o1315.toInt = p1229.toInt + 1 ∧ f1318 p1227.toInt.toNat = some q1226 ∧ (∀ j w, f1318 j = some w → w = q1226) ∧ (n1317 : Int) = 10
set_option maxRecDepth 100000 in
set_option maxHeartbeats 4000000 in
theorem cp_1239_ArrayList_add (l : Launch) (hl0 : l.stackTraces = false) (D : va_G) (I : FieldType → ClassId) (P1223 : List Nat) (F1224 : Nat → va_E) (q1225 : Nat) (q1226 : Nat) (p1227 : Int32) (p1228 : Int32) (p1229 : Int32) (p1230 : Int32) (p1231 : Int32) (p1232 : Int32) (p1233 : Int32) (p1234 : Int32) (p1235 : Int32) (p1236 : Int32) (hmq1225 : q1225 ∈ P1223) (hmq1226 : q1226 ∈ P1223) (heq1225 : F1224 q1225 = .inr (4, [.int p1228, .ref (D.2 1002 1), .int p1229])) (heq1226 : F1224 q1226 = .inr (20, [.int p1230, .int p1231, .int p1232, .int p1233, .int p1234, .int p1235, .int p1236])) (bp1227 : gB p1227 0 16777216) (bp1229 : gB p1229 0 16777216) (bp1230 : gB p1230 0 32) (bp1231 : gB p1231 0 1999) (bp1234 : gB p1234 0 1999) (bp1235 : gB p1235 0 1) (bp1236 : gB p1236 0 1) (x1237 : p1229.toInt = 0) (x1238 : p1227.toInt ≤ p1229.toInt) : CtA (gV D I) l yJx4a65c_add_7a177 cJx4a65c_add_7a177 5 none 3 57 1 10 [.ref q1225, .int p1227, .ref q1226] (va_pl P1223 F1224) (pp_1239_ArrayList_add D I P1223 F1224 q1225 q1226 p1227 p1228 p1229 p1230 p1231 p1232 p1233 p1234 p1235 p1236) gNA := by
  refine CtA_ofF hl0 (by decide +kernel) (Nat.le_of_ble_eq_true rfl) ?_
  have bp1228 := gB_any p1228
  have bp1232 := gB_any p1232
  have bp1233 := gB_any p1233
  refine G_aload_n 0 dr_cJx4a65c_add_7a177_0 rfl ?_
  refine G_iload_n 1 dr_cJx4a65c_add_7a177_1 rfl ?_
  refine Gw_callV (As := [.int p1227]) (gV_ok D I) (cp_1247_ArrayList_rangeCheckForAdd l hl0 D I P1223 F1224 q1225 p1227 p1228 p1229 hmq1225 heq1225 bp1227 bp1229 (by omega)) dr_cJx4a65c_add_7a177_2 ⟨wr_10_211, wr_1_18, wr_10_214, by decide, rfl, (Nat.le_of_ble_eq_true rfl), (Nat.le_of_ble_eq_true rfl)⟩ wr_10_213 wr_p_97 hmq1225 heq1225 rfl (show 0 + 0 ≤ 1 by first | omega | decide) (show 0 + 0 ≤ 10 by first | omega | decide) (Nat.le_of_ble_eq_true rfl) (fun r1254 w1255 dc1251 ds1252 hp1253 => ?_) (fun _ _ _ _ _ z => z.elim)
  obtain ⟨rfl, rfl, hdc, hds⟩ := hp1253
  change G _ _ _ _ _ _ _ _ _ _ _
  refine G_widen (cs' := 0) (sl' := 0) (by omega) (by omega) ?_
  refine G_aload_n 0 dr_cJx4a65c_add_7a177_5 rfl ?_
  refine G_dup dr_cJx4a65c_add_7a177_6 rfl ?_
  refine Gp_getS 0 hmq1225 heq1225 dr_cJx4a65c_add_7a177_7 (gk_Jx4a65c D I) (Nat.le_of_ble_eq_true rfl) wr_7_20 wr_7_21 rfl ?_
  refine G_iconst 1 dr_cJx4a65c_add_7a177_10 (by decide +kernel) ?_
  refine G_iadd dr_cJx4a65c_add_7a177_11 (G_nam fun z1256 hz1256 => ?_)
  have bz1256 : gB z1256 (-2147483648) 2147483647 := gB_any z1256
  refine Gp_putS 0 hmq1225 heq1225 dr_cJx4a65c_add_7a177_12 (gk_Jx4a65c D I) (Nat.le_of_ble_eq_true rfl) wr_7_20 wr_7_21 rfl rfl rfl (Nat.le_of_ble_eq_true rfl) (fun F1257 e1258 n1259 => ?_)
  have he1260 : F1257 q1226 = .inr (20, [.int p1230, .int p1231, .int p1232, .int p1233, .int p1234, .int p1235, .int p1236]) := (n1259 q1226 (rn_oo heq1226 heq1225 (by decide))).trans heq1226
  have he1261 : F1257 q1225 = .inr (4, [.int z1256, .ref (D.2 1002 1), .int p1229]) := e1258
  have hfr1262 : rFr [q1225] P1223 F1224 F1257 := rFr_put (rFr_rf (W := []) (P := P1223) (F := F1224)) n1259
  refine G_aload_n 0 dr_cJx4a65c_add_7a177_15 rfl ?_
  refine Gp_get 2 hmq1225 he1261 dr_cJx4a65c_add_7a177_16 (gk_Jx4a65c D I) (Nat.le_of_ble_eq_true rfl) wr_7_18 rfl ?_
  refine G_dup dr_cJx4a65c_add_7a177_19 rfl ?_
  refine G_istore_n (L' := [(3, .int p1229), (0, .ref q1225), (1, .int p1227), (2, .ref q1226)]) dr_cJx4a65c_add_7a177_20 (Nat.le_of_ble_eq_true rfl) rfl ?_
  refine G_aload_n 1 dr_cJx4a65c_add_7a177_21 rfl ?_
  refine Gp_get 1 hmq1225 he1261 dr_cJx4a65c_add_7a177_22 (gk_Jx4a65c D I) (Nat.le_of_ble_eq_true rfl) wr_7_17 rfl ?_
  refine G_dup dr_cJx4a65c_add_7a177_25 rfl ?_
  refine G_astore (L' := [(4, .ref (D.2 1002 1)), (3, .int p1229), (0, .ref q1225), (1, .int p1227), (2, .ref q1226)]) dr_cJx4a65c_add_7a177_26 (Nat.le_of_ble_eq_true rfl) rfl ?_
  refine G_klen dr_cJx4a65c_add_7a177_28 gr_dt ?_
  refine G_icmp_ne 38 dr_cJx4a65c_add_7a177_29 (by decide +kernel) (fun hc => absurd (show False by have := gj_neq hc (show Int32.toInt 0 = 0 by decide); omega) not_false) (fun hc1263 => ?_)
  have r1265 : p1229.toInt = 0 := gj_eq hc1263 (show Int32.toInt 0 = 0 by decide)
  have bp1229' : gB p1229 0 0 := ⟨by omega, by omega⟩
  refine G_aload_n 2 dr_cJx4a65c_add_7a177_32 rfl ?_
  refine Gw_callV (As := []) (gV_ok D I) (cp_780_ArrayList_grow l hl0 D I P1223 F1257 q1225 z1256 p1229 hmq1225 he1261 (gB_w bp1229' (by decide) (by decide)) (by omega)) dr_cJx4a65c_add_7a177_33 ⟨wr_10_11, wr_1_18, wr_10_14, by decide, rfl, (Nat.le_of_ble_eq_true rfl), (Nat.le_of_ble_eq_true rfl)⟩ wr_10_13 wr_p_86 hmq1225 he1261 rfl (show 0 + 1 ≤ 1 by first | omega | decide) (show 0 + 10 ≤ 10 by first | omega | decide) (Nat.le_of_ble_eq_true rfl) (fun r1269 w1270 dc1266 ds1267 hp1268 => ?_) (fun _ _ _ _ _ z => z.elim)
  obtain ⟨P1274, F1275, q1271, n1272, rfl, rfl, hsb1276, hfr1277, he1278, he1279, hm1280, hq1281, hdc, hds, x1273⟩ := hp1268
  have hm1282 : q1225 ∈ P1274 := hsb1276 q1225 hmq1225
  have hm1283 : q1226 ∈ P1274 := hsb1276 q1226 hmq1226
  have hq1284 : q1271 ∉ P1223 := fun z => hq1281 ((rSub_rf (P := P1223)) q1271 z)
  have hsb1285 : rSub P1223 P1274 := rSub_tr (rSub_rf (P := P1223)) hsb1276
  have he1286 : F1275 q1226 = .inr (20, [.int p1230, .int p1231, .int p1232, .int p1233, .int p1234, .int p1235, .int p1236]) := (hfr1277 q1226 hmq1226 (nm_c (rn_oo he1260 he1261 (by decide)) nm_n)).trans he1260
  have hfr1287 : rFr [q1225] P1223 F1224 F1275 := rFr_call (rSub_rf (P := P1223)) hfr1262 hfr1277 (fun b hb hn => ⟨(nm_c (fun e => hn (e ▸ List.mem_cons_self)) nm_n), (nm_c (fun e => hn (e ▸ List.mem_cons_self)) nm_n)⟩)
  change G _ _ _ _ _ _ _ (.ref q1271 :: _) _ _ _
  refine G_widen (cs' := 1) (sl' := 10) (by omega) (by omega) ?_
  refine G_astore (L' := [(4, .ref q1271), (3, .int p1229), (0, .ref q1225), (1, .int p1227), (2, .ref q1226)]) dr_cJx4a65c_add_7a177_36 (Nat.le_of_ble_eq_true rfl) rfl ?_
  refine G_aload 0 dr_cJx4a65c_add_7a177_38 rfl ?_
  refine G_iload_n 3 dr_cJx4a65c_add_7a177_40 rfl ?_
  refine G_aload 0 dr_cJx4a65c_add_7a177_41 rfl ?_
  refine G_iload_n 3 dr_cJx4a65c_add_7a177_43 rfl ?_
  refine G_iconst 1 dr_cJx4a65c_add_7a177_44 (by decide +kernel) ?_
  refine G_iadd dr_cJx4a65c_add_7a177_45 (G_nam fun z1288 hz1288 => ?_)
  have ez1288 : z1288.toInt = p1227.toInt + 1 := by rw [gI_add hz1288 bp1227 (gBl (show Int32.toInt 1 = 1 by decide)) (by decide) (by decide), show Int32.toInt 1 = 1 from by decide]
  have bz1288 : gB z1288 1 16777217 := gB_add (gI_add hz1288 bp1227 (gBl (show Int32.toInt 1 = 1 by decide)) (by decide) (by decide)) bp1227 (gBl (show Int32.toInt 1 = 1 by decide)) (by decide) (by decide)
  refine G_iload_n 1 dr_cJx4a65c_add_7a177_46 rfl ?_
  refine G_iload_n 3 dr_cJx4a65c_add_7a177_47 rfl ?_
  refine G_isub dr_cJx4a65c_add_7a177_48 (G_nam fun z1289 hz1289 => ?_)
  have ez1289 : z1289.toInt = p1229.toInt - p1227.toInt := by rw [gI_sub hz1289 bp1229' bp1227 (by decide) (by decide)]
  have bz1289 : gB z1289 (-16777216) 0 := gB_sub (gI_sub hz1289 bp1229' bp1227 (by decide) (by decide)) bp1229' bp1227 (by decide) (by decide)
  refine Gp_copyq 4 hm1280 hm1280 he1279 he1279 dr_cJx4a65c_add_7a177_49 wr_10_228 wr_5_113 wr_5_112 wr_1_34 rfl (by omega) (by omega) (by omega) (by omega) (by omega) (fun j _ w hw => by cases hw) (Nat.le_of_ble_eq_true rfl) (Nat.le_of_ble_eq_true rfl) (fun F1290 e1291 n1292 => ?_)
  obtain ⟨f1293, hf1293⟩ : ∃ z, z = va_cpy (fun _ => none) (fun _ => none) p1227.toNatClampNeg z1288.toNatClampNeg z1289.toNatClampNeg := ⟨_, rfl⟩
  rw [← hf1293] at e1291
  have he1294 : F1290 q1226 = .inr (20, [.int p1230, .int p1231, .int p1232, .int p1233, .int p1234, .int p1235, .int p1236]) := (n1292 q1226 (fun h => hq1284 (h ▸ hmq1226))).trans he1286
  have he1295 : F1290 q1225 = .inr (4, [.int z1256, .ref q1271, .int p1229]) := (n1292 q1225 (fun h => hq1284 (h ▸ hmq1225))).trans he1278
  have he1296 : F1290 q1271 = .inl (I (.object "java/lang/Object"), n1272, .inr (.inr (.inr (.inr f1293)))) := e1291
  have hfr1297 : rFr [q1225] P1223 F1224 F1290 := rFr_newp hq1284 hfr1287 n1292
  refine G_aload 0 dr_cJx4a65c_add_7a177_52 rfl ?_
  refine G_iload_n 3 dr_cJx4a65c_add_7a177_54 rfl ?_
  refine G_aload_n 4 dr_cJx4a65c_add_7a177_55 rfl ?_
  refine Gp_aast 4 hm1280 he1296 dr_cJx4a65c_add_7a177_56 rfl ⟨hm1283, _, _, _, _, _, he1294, rfl, gr_cast 3 rfl⟩ (gB_inr (by omega) (by omega)) (fun F1298 e1299 n1300 => ?_)
  obtain ⟨f1301, hf1301⟩ : ∃ z, z = va_up f1293 p1227.toNatClampNeg (some q1226) := ⟨_, rfl⟩
  rw [← hf1301] at e1299
  have he1302 : F1298 q1226 = .inr (20, [.int p1230, .int p1231, .int p1232, .int p1233, .int p1234, .int p1235, .int p1236]) := (n1300 q1226 (fun h => hq1284 (h ▸ hmq1226))).trans he1294
  have he1303 : F1298 q1225 = .inr (4, [.int z1256, .ref q1271, .int p1229]) := (n1300 q1225 (fun h => hq1284 (h ▸ hmq1225))).trans he1295
  have he1304 : F1298 q1271 = .inl (I (.object "java/lang/Object"), n1272, .inr (.inr (.inr (.inr f1301)))) := e1299
  have hfr1305 : rFr [q1225] P1223 F1224 F1298 := rFr_newp hq1284 hfr1297 n1300
  refine G_aload_n 2 dr_cJx4a65c_add_7a177_57 rfl ?_
  refine G_iload_n 1 dr_cJx4a65c_add_7a177_58 rfl ?_
  refine G_iconst 1 dr_cJx4a65c_add_7a177_59 (by decide +kernel) ?_
  refine G_iadd dr_cJx4a65c_add_7a177_60 (G_nam fun z1306 hz1306 => ?_)
  have ez1306 : z1306.toInt = p1229.toInt + 1 := by rw [gI_add hz1306 bp1229' (gBl (show Int32.toInt 1 = 1 by decide)) (by decide) (by decide), show Int32.toInt 1 = 1 from by decide]
  have bz1306 : gB z1306 1 1 := gB_add (gI_add hz1306 bp1229' (gBl (show Int32.toInt 1 = 1 by decide)) (by decide) (by decide)) bp1229' (gBl (show Int32.toInt 1 = 1 by decide)) (by decide) (by decide)
  refine Gp_put 2 hm1282 he1303 dr_cJx4a65c_add_7a177_61 (gk_Jx4a65c D I) (Nat.le_of_ble_eq_true rfl) wr_7_18 rfl rfl rfl (Nat.le_of_ble_eq_true rfl) (fun F1307 e1308 n1309 => ?_)
  have he1310 : F1307 q1226 = .inr (20, [.int p1230, .int p1231, .int p1232, .int p1233, .int p1234, .int p1235, .int p1236]) := (n1309 q1226 (rn_oo he1302 he1303 (by decide))).trans he1302
  have he1311 : F1307 q1271 = .inl (I (.object "java/lang/Object"), n1272, .inr (.inr (.inr (.inr f1301)))) := (n1309 q1271 (fun h => hq1284 (h ▸ hmq1225))).trans he1304
  have he1312 : F1307 q1225 = .inr (4, [.int z1256, .ref q1271, .int z1306]) := e1308
  have hfr1313 : rFr [q1225] P1223 F1224 F1307 := rFr_put' List.mem_cons_self hfr1305 n1309
  exact G_vretA dr_cJx4a65c_add_7a177_64 rfl (Nat.le_of_ble_eq_true rfl) (Nat.le_of_ble_eq_true rfl) ⟨P1274, F1307, z1256, z1306, q1271, n1272, f1301, rfl, rfl, hsb1285, hfr1313, he1310, he1312, he1311, hm1280, hq1284, (Nat.le_of_ble_eq_true rfl), (Nat.le_of_ble_eq_true rfl), bz1306, (by omega), (rI_ins (f := fun _ => none) (m := 0) (fun _ _ => rfl) hf1293 hf1301 (by omega) (by omega) (by omega) (by omega)).2.1, (rX_none (rSrcX_up hf1301 (rSrc_cpy hf1293 rSrc_none rSrc_none))), (by omega)⟩
abbrev ky_1332_ArrayList_clear : gKey := (cJx4a65c_clear_da8c8, 4, "java/util/ArrayList", none, [], "clear", fun _ _ => True)
def pp_1332_ArrayList_clear (D : va_G) (I : FieldType → ClassId) (P1321 : List Nat) (F1322 : Nat → va_E) (q1323 : Nat) (q1324 : Nat) (p1325 : Int32) (p1326 : Int32) (f1327 : Nat → Option Nat) (n1328 : Nat) : Option Value → va_W → Nat → Nat → Prop := fun r w dc ds => ∃ (F1464 : Nat → va_E) (o1461 : Int32) (f1462 : Nat → Option Nat), r = none ∧ w = va_pl P1321 F1464 ∧ rFr [q1323, q1324] P1321 F1322 F1464 ∧ F1464 q1323 = .inr (4, [.int o1461, .ref q1324, .int 0]) ∧ F1464 q1324 = .inl (I (.object "java/lang/Object"), n1328, .inr (.inr (.inr (.inr f1462)))) ∧ dc ≤ 0 ∧ ds ≤ 0 ∧ rSrc f1462 f1327
set_option maxRecDepth 100000 in
set_option maxHeartbeats 4000000 in
theorem cp_1332_ArrayList_clear (l : Launch) (hl0 : l.stackTraces = false) (D : va_G) (I : FieldType → ClassId) (P1321 : List Nat) (F1322 : Nat → va_E) (q1323 : Nat) (q1324 : Nat) (p1325 : Int32) (p1326 : Int32) (f1327 : Nat → Option Nat) (n1328 : Nat) (hmq1323 : q1323 ∈ P1321) (hmq1324 : q1324 ∈ P1321) (heq1323 : F1322 q1323 = .inr (4, [.int p1325, .ref q1324, .int p1326])) (heq1324 : F1322 q1324 = .inl (I (.object "java/lang/Object"), n1328, .inr (.inr (.inr (.inr f1327))))) (bp1326 : gB p1326 0 16777216) (x1329 : p1326.toInt ≤ (n1328 : Int)) (x1330 : rEl P1321 F1322 f1327) (x1331 : ((n1328 : Int) ≤ 16777216)) : CtA (gV D I) l yJx4a65c_clear_da8c8 cJx4a65c_clear_da8c8 4 none 0 0 0 0 [.ref q1323] (va_pl P1321 F1322) (pp_1332_ArrayList_clear D I P1321 F1322 q1323 q1324 p1325 p1326 f1327 n1328) gNA := by
  refine CtA_ofF hl0 (by decide +kernel) (Nat.le_of_ble_eq_true rfl) ?_
  have bp1325 := gB_any p1325
  refine G_aload_n 0 dr_cJx4a65c_clear_da8c8_0 rfl ?_
  refine G_dup dr_cJx4a65c_clear_da8c8_1 rfl ?_
  refine Gp_getS 0 hmq1323 heq1323 dr_cJx4a65c_clear_da8c8_2 (gk_Jx4a65c D I) (Nat.le_of_ble_eq_true rfl) wr_7_20 wr_7_21 rfl ?_
  refine G_iconst 1 dr_cJx4a65c_clear_da8c8_5 (by decide +kernel) ?_
  refine G_iadd dr_cJx4a65c_clear_da8c8_6 (G_nam fun z1333 hz1333 => ?_)
  have bz1333 : gB z1333 (-2147483648) 2147483647 := gB_any z1333
  refine Gp_putS 0 hmq1323 heq1323 dr_cJx4a65c_clear_da8c8_7 (gk_Jx4a65c D I) (Nat.le_of_ble_eq_true rfl) wr_7_20 wr_7_21 rfl rfl rfl (Nat.le_of_ble_eq_true rfl) (fun F1334 e1335 n1336 => ?_)
  have he1337 : F1334 q1324 = .inl (I (.object "java/lang/Object"), n1328, .inr (.inr (.inr (.inr f1327)))) := (n1336 q1324 (rn_ao heq1324 heq1323)).trans heq1324
  have he1338 : F1334 q1323 = .inr (4, [.int z1333, .ref q1324, .int p1326]) := e1335
  have hfr1339 : rFr [q1323] P1321 F1322 F1334 := rFr_put (rFr_rf (W := []) (P := P1321) (F := F1322)) n1336
  refine G_aload_n 0 dr_cJx4a65c_clear_da8c8_10 rfl ?_
  refine Gp_get 1 hmq1323 he1338 dr_cJx4a65c_clear_da8c8_11 (gk_Jx4a65c D I) (Nat.le_of_ble_eq_true rfl) wr_7_17 rfl ?_
  refine G_astore_n (L' := [(1, .ref q1324), (0, .ref q1323)]) dr_cJx4a65c_clear_da8c8_14 (Nat.le_of_ble_eq_true rfl) rfl ?_
  refine G_aload_n 1 dr_cJx4a65c_clear_da8c8_15 rfl ?_
  refine Gp_get 2 hmq1323 he1338 dr_cJx4a65c_clear_da8c8_16 (gk_Jx4a65c D I) (Nat.le_of_ble_eq_true rfl) wr_7_18 rfl ?_
  refine G_istore_n (L' := [(2, .int p1326), (1, .ref q1324), (0, .ref q1323)]) dr_cJx4a65c_clear_da8c8_19 (Nat.le_of_ble_eq_true rfl) rfl ?_
  refine G_aload_n 2 dr_cJx4a65c_clear_da8c8_20 rfl ?_
  refine G_iconst 0 dr_cJx4a65c_clear_da8c8_21 (by decide +kernel) ?_
  refine G_dup_x1 dr_cJx4a65c_clear_da8c8_22 rfl rfl ?_
  refine Gp_put 2 hmq1323 he1338 dr_cJx4a65c_clear_da8c8_23 (gk_Jx4a65c D I) (Nat.le_of_ble_eq_true rfl) wr_7_18 rfl rfl rfl (Nat.le_of_ble_eq_true rfl) (fun F1340 e1341 n1342 => ?_)
  have he1343 : F1340 q1324 = .inl (I (.object "java/lang/Object"), n1328, .inr (.inr (.inr (.inr f1327)))) := (n1342 q1324 (rn_ao he1337 he1338)).trans he1337
  have he1344 : F1340 q1323 = .inr (4, [.int z1333, .ref q1324, .int 0]) := e1341
  have hfr1345 : rFr [q1323] P1321 F1322 F1340 := rFr_put' List.mem_cons_self hfr1339 n1342
  refine G_istore_n (L' := [(3, .int 0), (2, .int p1326), (1, .ref q1324), (0, .ref q1323)]) dr_cJx4a65c_clear_da8c8_26 (Nat.le_of_ble_eq_true rfl) rfl ?_
  have hlp27_1449 : ∀ (n27_1449 : Nat) (F1443 : Nat → va_E) (g1441 : Int32) (f1442 : Nat → Option Nat), gB g1441 0 16777216 → rFr [q1323, q1324] P1321 F1322 F1443 → F1443 q1323 = .inr (4, [.int z1333, .ref q1324, .int 0]) → F1443 q1324 = .inl (I (.object "java/lang/Object"), n1328, .inr (.inr (.inr (.inr f1442)))) → rSrc f1442 f1327 → p1326.toInt ≤ (n1328 : Int) → (n1328 : Int) ≤ 16777216 → ((16777217 : Int) - g1441.toInt).toNat < n27_1449 → G (gV D I) l (gRm 0 0 0 0) (gMA (gV D I) (pp_1332_ArrayList_clear D I P1321 F1322 q1323 q1324 p1325 p1326 f1327 n1328) gNA 0 0) ky_1332_ArrayList_clear 27 [(3, .int g1441), (2, .int p1326), (1, .ref q1324), (0, .ref q1323)] [] (va_pl P1321 F1443) 0 0 := by
    intro n27_1449
    induction n27_1449 with
    | zero => intro F1443 g1441 f1442 bg1441 hfr1446 he1444 he1445 x1447 x1448 x1449 hm27_1449; exact absurd hm27_1449 (Nat.not_lt_zero _)
    | succ n27_1449 ih27_1449 =>
      intro F1443 g1441 f1442 bg1441 hfr1446 he1444 he1445 x1447 x1448 x1449 hm27_1449
      refine G_iload_n 0 dr_cJx4a65c_clear_da8c8_27 rfl ?_
      refine G_iload_n 1 dr_cJx4a65c_clear_da8c8_28 rfl ?_
      refine G_icmp_ge 42 dr_cJx4a65c_clear_da8c8_29 (by decide +kernel) (fun hc1450 => ?_) (fun hc1450 => ?_)
      · have r1451 : p1326.toInt ≤ g1441.toInt := gC_le hc1450
        exact G_vretA dr_cJx4a65c_clear_da8c8_42 rfl (Nat.le_of_ble_eq_true rfl) (Nat.le_of_ble_eq_true rfl) ⟨F1443, z1333, f1442, rfl, rfl, hfr1446, he1444, he1445, (Nat.le_of_ble_eq_true rfl), (Nat.le_of_ble_eq_true rfl), x1447⟩
      · have r1452 : g1441.toInt < p1326.toInt := gC_nle hc1450
        have bg1441' : gB g1441 0 16777215 := ⟨by omega, by omega⟩
        have bp1326' : gB p1326 1 16777216 := ⟨by omega, by omega⟩
        refine G_aload_n 2 dr_cJx4a65c_clear_da8c8_32 rfl ?_
        refine G_iload_n 0 dr_cJx4a65c_clear_da8c8_33 rfl ?_
        refine G_null dr_cJx4a65c_clear_da8c8_34 ?_
        refine Gp_aastN 4 hmq1324 he1445 dr_cJx4a65c_clear_da8c8_35 rfl (gB_inr (by omega) (by omega)) (fun F1453 e1454 n1455 => ?_)
        obtain ⟨f1456, hf1456⟩ : ∃ z, z = va_up f1442 g1441.toNatClampNeg none := ⟨_, rfl⟩
        rw [← hf1456] at e1454
        have he1457 : F1453 q1323 = .inr (4, [.int z1333, .ref q1324, .int 0]) := (n1455 q1323 (rn_oa he1444 he1445)).trans he1444
        have he1458 : F1453 q1324 = .inl (I (.object "java/lang/Object"), n1328, .inr (.inr (.inr (.inr f1456)))) := e1454
        have hfr1459 : rFr [q1323, q1324] P1321 F1322 F1453 := rFr_put' (List.mem_cons_of_mem _ List.mem_cons_self) hfr1446 n1455
        obtain ⟨z1460, hz1460⟩ : ∃ z : Int32, z = g1441 + Int32.ofInt 1 := ⟨_, rfl⟩
        have ez1460 : z1460.toInt = g1441.toInt + 1 := gI_inc hz1460 (by decide) bg1441' (by decide) (by decide)
        have bz1460 : gB z1460 1 16777216 := ⟨by omega, by omega⟩
        refine G_iinc (L' := [(3, .int z1460), (2, .int p1326), (1, .ref q1324), (0, .ref q1323)]) z1460 0 dr_cJx4a65c_clear_da8c8_36 rfl hz1460.symm (Nat.le_of_ble_eq_true rfl) rfl ?_
        refine G_goto 27 dr_cJx4a65c_clear_da8c8_39 (by decide +kernel) ?_
        exact ih27_1449 F1453 z1460 f1456 (gB_w bz1460 (by decide) (by decide)) hfr1459 he1457 he1458 (rSrc_upN hf1456 x1447) (by have qa0 : Int32.toInt 0 = 0 := (by decide); omega) (by have qa0 : Int32.toInt 0 = 0 := (by decide); omega) (by have qa0 : Int32.toInt 0 = 0 := (by decide); omega)
  exact hlp27_1449 (((16777217 : Int) - 0).toNat + 1) F1340 0 f1327 (gB_w (gBl (show Int32.toInt 0 = 0 by decide)) (by decide) (by decide)) (rFr_v hfr1345 (fun b hn => (nm_c (fun e => hn (e ▸ List.mem_cons_self)) nm_n))) he1344 he1343 rSrc_rf (by have qa0 : Int32.toInt 0 = 0 := (by decide); omega) (by have qa0 : Int32.toInt 0 = 0 := (by decide); omega) (Nat.lt_succ_self _)
abbrev ky_1471_ArrayList_clear : gKey := (cJx4a65c_clear_da8c8, 4, "java/util/ArrayList", none, [], "clear", fun _ _ => True)
def pp_1471_ArrayList_clear (D : va_G) (I : FieldType → ClassId) (P1465 : List Nat) (F1466 : Nat → va_E) (q1467 : Nat) (p1468 : Int32) (p1469 : Int32) : Option Value → va_W → Nat → Nat → Prop := fun r w dc ds => ∃ (F1491 : Nat → va_E) (o1489 : Int32), r = none ∧ w = va_pl P1465 F1491 ∧ rFr [q1467] P1465 F1466 F1491 ∧ F1491 q1467 = .inr (4, [.int o1489, .ref (D.2 1002 1), .int 0]) ∧ dc ≤ 0 ∧ ds ≤ 0
set_option maxRecDepth 100000 in
set_option maxHeartbeats 4000000 in
theorem cp_1471_ArrayList_clear (l : Launch) (hl0 : l.stackTraces = false) (D : va_G) (I : FieldType → ClassId) (P1465 : List Nat) (F1466 : Nat → va_E) (q1467 : Nat) (p1468 : Int32) (p1469 : Int32) (hmq1467 : q1467 ∈ P1465) (heq1467 : F1466 q1467 = .inr (4, [.int p1468, .ref (D.2 1002 1), .int p1469])) (bp1469 : gB p1469 0 16777216) (x1470 : p1469.toInt = 0) : CtA (gV D I) l yJx4a65c_clear_da8c8 cJx4a65c_clear_da8c8 4 none 0 0 0 0 [.ref q1467] (va_pl P1465 F1466) (pp_1471_ArrayList_clear D I P1465 F1466 q1467 p1468 p1469) gNA := by
  refine CtA_ofF hl0 (by decide +kernel) (Nat.le_of_ble_eq_true rfl) ?_
  have bp1468 := gB_any p1468
  refine G_aload_n 0 dr_cJx4a65c_clear_da8c8_0 rfl ?_
  refine G_dup dr_cJx4a65c_clear_da8c8_1 rfl ?_
  refine Gp_getS 0 hmq1467 heq1467 dr_cJx4a65c_clear_da8c8_2 (gk_Jx4a65c D I) (Nat.le_of_ble_eq_true rfl) wr_7_20 wr_7_21 rfl ?_
  refine G_iconst 1 dr_cJx4a65c_clear_da8c8_5 (by decide +kernel) ?_
  refine G_iadd dr_cJx4a65c_clear_da8c8_6 (G_nam fun z1472 hz1472 => ?_)
  have bz1472 : gB z1472 (-2147483648) 2147483647 := gB_any z1472
  refine Gp_putS 0 hmq1467 heq1467 dr_cJx4a65c_clear_da8c8_7 (gk_Jx4a65c D I) (Nat.le_of_ble_eq_true rfl) wr_7_20 wr_7_21 rfl rfl rfl (Nat.le_of_ble_eq_true rfl) (fun F1473 e1474 n1475 => ?_)
  have he1476 : F1473 q1467 = .inr (4, [.int z1472, .ref (D.2 1002 1), .int p1469]) := e1474
  have hfr1477 : rFr [q1467] P1465 F1466 F1473 := rFr_put (rFr_rf (W := []) (P := P1465) (F := F1466)) n1475
  refine G_aload_n 0 dr_cJx4a65c_clear_da8c8_10 rfl ?_
  refine Gp_get 1 hmq1467 he1476 dr_cJx4a65c_clear_da8c8_11 (gk_Jx4a65c D I) (Nat.le_of_ble_eq_true rfl) wr_7_17 rfl ?_
  refine G_astore_n (L' := [(1, .ref (D.2 1002 1)), (0, .ref q1467)]) dr_cJx4a65c_clear_da8c8_14 (Nat.le_of_ble_eq_true rfl) rfl ?_
  refine G_aload_n 1 dr_cJx4a65c_clear_da8c8_15 rfl ?_
  refine Gp_get 2 hmq1467 he1476 dr_cJx4a65c_clear_da8c8_16 (gk_Jx4a65c D I) (Nat.le_of_ble_eq_true rfl) wr_7_18 rfl ?_
  refine G_istore_n (L' := [(2, .int p1469), (1, .ref (D.2 1002 1)), (0, .ref q1467)]) dr_cJx4a65c_clear_da8c8_19 (Nat.le_of_ble_eq_true rfl) rfl ?_
  refine G_aload_n 2 dr_cJx4a65c_clear_da8c8_20 rfl ?_
  refine G_iconst 0 dr_cJx4a65c_clear_da8c8_21 (by decide +kernel) ?_
  refine G_dup_x1 dr_cJx4a65c_clear_da8c8_22 rfl rfl ?_
  refine Gp_put 2 hmq1467 he1476 dr_cJx4a65c_clear_da8c8_23 (gk_Jx4a65c D I) (Nat.le_of_ble_eq_true rfl) wr_7_18 rfl rfl rfl (Nat.le_of_ble_eq_true rfl) (fun F1478 e1479 n1480 => ?_)
  have he1481 : F1478 q1467 = .inr (4, [.int z1472, .ref (D.2 1002 1), .int 0]) := e1479
  have hfr1482 : rFr [q1467] P1465 F1466 F1478 := rFr_put' List.mem_cons_self hfr1477 n1480
  refine G_istore_n (L' := [(3, .int 0), (2, .int p1469), (1, .ref (D.2 1002 1)), (0, .ref q1467)]) dr_cJx4a65c_clear_da8c8_26 (Nat.le_of_ble_eq_true rfl) rfl ?_
  have hlp27_1485 : ∀ (n27_1485 : Nat) , 0 < n27_1485 → G (gV D I) l (gRm 0 0 0 0) (gMA (gV D I) (pp_1471_ArrayList_clear D I P1465 F1466 q1467 p1468 p1469) gNA 0 0) ky_1471_ArrayList_clear 27 [(3, .int 0), (2, .int p1469), (1, .ref (D.2 1002 1)), (0, .ref q1467)] [] (va_pl P1465 F1478) 0 0 := by
    intro n27_1485
    induction n27_1485 with
    | zero => intro hm27_1485; exact absurd hm27_1485 (Nat.not_lt_zero _)
    | succ n27_1485 ih27_1485 =>
      intro hm27_1485
      refine G_iload_n 0 dr_cJx4a65c_clear_da8c8_27 rfl ?_
      refine G_iload_n 1 dr_cJx4a65c_clear_da8c8_28 rfl ?_
      refine G_icmp_ge 42 dr_cJx4a65c_clear_da8c8_29 (by decide +kernel) (fun hc1486 => ?_) (fun hc => absurd (show False by have := gj_nle hc (show Int32.toInt 0 = 0 by decide); omega) not_false)
      have r1488 : p1469.toInt ≤ 0 := gj_le hc1486 (show Int32.toInt 0 = 0 by decide)
      have bp1469' : gB p1469 0 0 := ⟨by omega, by omega⟩
      exact G_vretA dr_cJx4a65c_clear_da8c8_42 rfl (Nat.le_of_ble_eq_true rfl) (Nat.le_of_ble_eq_true rfl) ⟨F1478, z1472, rfl, rfl, hfr1482, he1481, (Nat.le_of_ble_eq_true rfl), (Nat.le_of_ble_eq_true rfl)⟩
  exact hlp27_1485 (0 + 1)  (Nat.lt_succ_self _)
abbrev ky_1527_ArrayList_fastRemove : gKey := (cJx4a65c_fastRemove_b59b0, 4, "java/util/ArrayList", none, [], "fastRemove", fun _ _ => True)
def pp_1527_ArrayList_fastRemove (D : va_G) (I : FieldType → ClassId) (P1514 : List Nat) (F1515 : Nat → va_E) (q1516 : Nat) (q1517 : Nat) (p1518 : Int32) (p1519 : Int32) (p1520 : Int32) (f1521 : Nat → Option Nat) (n1522 : Nat) : Option Value → va_W → Nat → Nat → Prop := fun r w dc ds => ∃ (F1578 : Nat → va_E) (o1574 : Int32) (o1575 : Int32) (f1576 : Nat → Option Nat), r = none ∧ w = va_pl P1514 F1578 ∧ rFr [q1517, q1516] P1514 F1515 F1578 ∧ F1578 q1516 = .inr (4, [.int o1574, .ref q1517, .int o1575]) ∧ F1578 q1517 = .inl (I (.object "java/lang/Object"), n1522, .inr (.inr (.inr (.inr f1576)))) ∧ dc ≤ 0 ∧ ds ≤ 0 ∧ gB o1575 (-1) 16777215 ∧ o1575.toInt = p1520.toInt - 1 ∧ ((∀ j : Nat, (j : Int) < p1518.toInt → f1576 j = f1521 j) ∧ ∀ j : Nat, p1518.toInt ≤ (j : Int) → (j : Int) < p1520.toInt - 1 → f1576 j = f1521 (j + 1)) ∧ rSrc f1576 f1521
set_option maxRecDepth 100000 in
set_option maxHeartbeats 4000000 in
theorem cp_1527_ArrayList_fastRemove (l : Launch) (hl0 : l.stackTraces = false) (D : va_G) (I : FieldType → ClassId) (P1514 : List Nat) (F1515 : Nat → va_E) (q1516 : Nat) (q1517 : Nat) (p1518 : Int32) (p1519 : Int32) (p1520 : Int32) (f1521 : Nat → Option Nat) (n1522 : Nat) (hmq1516 : q1516 ∈ P1514) (hmq1517 : q1517 ∈ P1514) (heq1516 : F1515 q1516 = .inr (4, [.int p1519, .ref q1517, .int p1520])) (heq1517 : F1515 q1517 = .inl (I (.object "java/lang/Object"), n1522, .inr (.inr (.inr (.inr f1521))))) (bp1518 : gB p1518 0 16777216) (bp1520 : gB p1520 0 16777216) (x1523 : p1518.toInt < p1520.toInt) (x1524 : p1520.toInt ≤ (n1522 : Int)) (x1525 : rEl P1514 F1515 f1521) (x1526 : ((n1522 : Int) ≤ 16777216)) : CtA (gV D I) l yJx4a65c_fastRemove_b59b0 cJx4a65c_fastRemove_b59b0 4 none 1 18 0 0 [.ref q1516, .ref q1517, .int p1518] (va_pl P1514 F1515) (pp_1527_ArrayList_fastRemove D I P1514 F1515 q1516 q1517 p1518 p1519 p1520 f1521 n1522) gNA := by
  refine CtA_ofF hl0 (by decide +kernel) (Nat.le_of_ble_eq_true rfl) ?_
  have bp1519 := gB_any p1519
  refine G_aload_n 0 dr_cJx4a65c_fastRemove_b59b0_0 rfl ?_
  refine G_dup dr_cJx4a65c_fastRemove_b59b0_1 rfl ?_
  refine Gp_getS 0 hmq1516 heq1516 dr_cJx4a65c_fastRemove_b59b0_2 (gk_Jx4a65c D I) (Nat.le_of_ble_eq_true rfl) wr_7_20 wr_7_21 rfl ?_
  refine G_iconst 1 dr_cJx4a65c_fastRemove_b59b0_5 (by decide +kernel) ?_
  refine G_iadd dr_cJx4a65c_fastRemove_b59b0_6 (G_nam fun z1528 hz1528 => ?_)
  have bz1528 : gB z1528 (-2147483648) 2147483647 := gB_any z1528
  refine Gp_putS 0 hmq1516 heq1516 dr_cJx4a65c_fastRemove_b59b0_7 (gk_Jx4a65c D I) (Nat.le_of_ble_eq_true rfl) wr_7_20 wr_7_21 rfl rfl rfl (Nat.le_of_ble_eq_true rfl) (fun F1529 e1530 n1531 => ?_)
  have he1532 : F1529 q1517 = .inl (I (.object "java/lang/Object"), n1522, .inr (.inr (.inr (.inr f1521)))) := (n1531 q1517 (rn_ao heq1517 heq1516)).trans heq1517
  have he1533 : F1529 q1516 = .inr (4, [.int z1528, .ref q1517, .int p1520]) := e1530
  have hfr1534 : rFr [q1516] P1514 F1515 F1529 := rFr_put (rFr_rf (W := []) (P := P1514) (F := F1515)) n1531
  refine G_aload_n 0 dr_cJx4a65c_fastRemove_b59b0_10 rfl ?_
  refine Gp_get 2 hmq1516 he1533 dr_cJx4a65c_fastRemove_b59b0_11 (gk_Jx4a65c D I) (Nat.le_of_ble_eq_true rfl) wr_7_18 rfl ?_
  refine G_iconst 1 dr_cJx4a65c_fastRemove_b59b0_14 (by decide +kernel) ?_
  refine G_isub dr_cJx4a65c_fastRemove_b59b0_15 (G_nam fun z1535 hz1535 => ?_)
  have ez1535 : z1535.toInt = p1520.toInt - 1 := by rw [gI_sub hz1535 bp1520 (gBl (show Int32.toInt 1 = 1 by decide)) (by decide) (by decide), show Int32.toInt 1 = 1 from by decide]
  have bz1535 : gB z1535 (-1) 16777215 := gB_sub (gI_sub hz1535 bp1520 (gBl (show Int32.toInt 1 = 1 by decide)) (by decide) (by decide)) bp1520 (gBl (show Int32.toInt 1 = 1 by decide)) (by decide) (by decide)
  refine G_dup dr_cJx4a65c_fastRemove_b59b0_16 rfl ?_
  refine G_istore_n (L' := [(3, .int z1535), (0, .ref q1516), (1, .ref q1517), (2, .int p1518)]) dr_cJx4a65c_fastRemove_b59b0_17 (Nat.le_of_ble_eq_true rfl) rfl ?_
  refine G_iload_n 3 dr_cJx4a65c_fastRemove_b59b0_18 rfl ?_
  refine G_icmp_le 34 dr_cJx4a65c_fastRemove_b59b0_19 (by decide +kernel) (fun hc1536 => ?_) (fun hc1536 => ?_)
  · have r1537 : z1535.toInt ≤ p1518.toInt := gC_le hc1536
    refine G_aload_n 2 dr_cJx4a65c_fastRemove_b59b0_34 rfl ?_
    refine G_aload_n 1 dr_cJx4a65c_fastRemove_b59b0_35 rfl ?_
    refine G_iload_n 0 dr_cJx4a65c_fastRemove_b59b0_36 rfl ?_
    refine G_dup_x1 dr_cJx4a65c_fastRemove_b59b0_37 rfl rfl ?_
    refine Gp_put 2 hmq1516 he1533 dr_cJx4a65c_fastRemove_b59b0_38 (gk_Jx4a65c D I) (Nat.le_of_ble_eq_true rfl) wr_7_18 rfl rfl rfl (Nat.le_of_ble_eq_true rfl) (fun F1538 e1539 n1540 => ?_)
    have he1541 : F1538 q1517 = .inl (I (.object "java/lang/Object"), n1522, .inr (.inr (.inr (.inr f1521)))) := (n1540 q1517 (rn_ao he1532 he1533)).trans he1532
    have he1542 : F1538 q1516 = .inr (4, [.int z1528, .ref q1517, .int z1535]) := e1539
    have hfr1543 : rFr [q1516] P1514 F1515 F1538 := rFr_put' List.mem_cons_self hfr1534 n1540
    refine G_null dr_cJx4a65c_fastRemove_b59b0_41 ?_
    refine Gp_aastN 4 hmq1517 he1541 dr_cJx4a65c_fastRemove_b59b0_42 rfl (gB_inr (by omega) (by omega)) (fun F1544 e1545 n1546 => ?_)
    obtain ⟨f1547, hf1547⟩ : ∃ z, z = va_up f1521 z1535.toNatClampNeg none := ⟨_, rfl⟩
    rw [← hf1547] at e1545
    have he1548 : F1544 q1516 = .inr (4, [.int z1528, .ref q1517, .int z1535]) := (n1546 q1516 (rn_oa he1542 he1541)).trans he1542
    have he1549 : F1544 q1517 = .inl (I (.object "java/lang/Object"), n1522, .inr (.inr (.inr (.inr f1547)))) := e1545
    have hfr1550 : rFr [q1517, q1516] P1514 F1515 F1544 := rFr_put hfr1543 n1546
    exact G_vretA dr_cJx4a65c_fastRemove_b59b0_43 rfl (Nat.le_of_ble_eq_true rfl) (Nat.le_of_ble_eq_true rfl) ⟨F1544, z1528, z1535, f1547, rfl, rfl, hfr1550, he1548, he1549, (Nat.le_of_ble_eq_true rfl), (Nat.le_of_ble_eq_true rfl), bz1535, (by omega), (rI_del0 (m := _) hf1547 (by omega) (by omega) (by omega)), (rSrc_upN hf1547 rSrc_rf)⟩
  · have r1551 : p1518.toInt < z1535.toInt := gC_nle hc1536
    have bp1518' : gB p1518 0 16777214 := ⟨by omega, by omega⟩
    have bz1535' : gB z1535 1 16777215 := ⟨by omega, by omega⟩
    refine G_aload_n 2 dr_cJx4a65c_fastRemove_b59b0_22 rfl ?_
    refine G_iload_n 3 dr_cJx4a65c_fastRemove_b59b0_23 rfl ?_
    refine G_iconst 1 dr_cJx4a65c_fastRemove_b59b0_24 (by decide +kernel) ?_
    refine G_iadd dr_cJx4a65c_fastRemove_b59b0_25 (G_nam fun z1552 hz1552 => ?_)
    have ez1552 : z1552.toInt = p1518.toInt + 1 := by rw [gI_add hz1552 bp1518' (gBl (show Int32.toInt 1 = 1 by decide)) (by decide) (by decide), show Int32.toInt 1 = 1 from by decide]
    have bz1552 : gB z1552 1 16777215 := gB_add (gI_add hz1552 bp1518' (gBl (show Int32.toInt 1 = 1 by decide)) (by decide) (by decide)) bp1518' (gBl (show Int32.toInt 1 = 1 by decide)) (by decide) (by decide)
    refine G_aload_n 2 dr_cJx4a65c_fastRemove_b59b0_26 rfl ?_
    refine G_iload_n 3 dr_cJx4a65c_fastRemove_b59b0_27 rfl ?_
    refine G_iload_n 0 dr_cJx4a65c_fastRemove_b59b0_28 rfl ?_
    refine G_iload_n 3 dr_cJx4a65c_fastRemove_b59b0_29 rfl ?_
    refine G_isub dr_cJx4a65c_fastRemove_b59b0_30 (G_nam fun z1553 hz1553 => ?_)
    have ez1553 : z1553.toInt = z1535.toInt - p1518.toInt := by rw [gI_sub hz1553 bz1535' bp1518' (by decide) (by decide)]
    have bz1553 : gB z1553 (-16777213) 16777215 := gB_sub (gI_sub hz1553 bz1535' bp1518' (by decide) (by decide)) bz1535' bp1518' (by decide) (by decide)
    refine Gp_copyq 4 hmq1517 hmq1517 he1532 he1532 dr_cJx4a65c_fastRemove_b59b0_31 wr_10_228 wr_5_113 wr_5_112 wr_1_34 rfl (by omega) (by omega) (by omega) (by omega) (by omega) (fun j _ w hw => rEl_ob (rEl_frG (rEl_src x1525 rSrc_rf) (rSub_rf (P := P1514)) hfr1534 (rNg_c (rNg_o heq1516 (by decide) (by decide)) rNg_n)) hw) (Nat.le_of_ble_eq_true rfl) (Nat.le_of_ble_eq_true rfl) (fun F1554 e1555 n1556 => ?_)
    obtain ⟨f1557, hf1557⟩ : ∃ z, z = va_cpy f1521 f1521 z1552.toNatClampNeg p1518.toNatClampNeg z1553.toNatClampNeg := ⟨_, rfl⟩
    rw [← hf1557] at e1555
    have he1558 : F1554 q1516 = .inr (4, [.int z1528, .ref q1517, .int p1520]) := (n1556 q1516 (rn_oa he1533 he1532)).trans he1533
    have he1559 : F1554 q1517 = .inl (I (.object "java/lang/Object"), n1522, .inr (.inr (.inr (.inr f1557)))) := e1555
    have hfr1560 : rFr [q1517, q1516] P1514 F1515 F1554 := rFr_put hfr1534 n1556
    refine G_aload_n 2 dr_cJx4a65c_fastRemove_b59b0_34 rfl ?_
    refine G_aload_n 1 dr_cJx4a65c_fastRemove_b59b0_35 rfl ?_
    refine G_iload_n 0 dr_cJx4a65c_fastRemove_b59b0_36 rfl ?_
    refine G_dup_x1 dr_cJx4a65c_fastRemove_b59b0_37 rfl rfl ?_
    refine Gp_put 2 hmq1516 he1558 dr_cJx4a65c_fastRemove_b59b0_38 (gk_Jx4a65c D I) (Nat.le_of_ble_eq_true rfl) wr_7_18 rfl rfl rfl (Nat.le_of_ble_eq_true rfl) (fun F1561 e1562 n1563 => ?_)
    have he1564 : F1561 q1517 = .inl (I (.object "java/lang/Object"), n1522, .inr (.inr (.inr (.inr f1557)))) := (n1563 q1517 (rn_ao he1559 he1558)).trans he1559
    have he1565 : F1561 q1516 = .inr (4, [.int z1528, .ref q1517, .int z1535]) := e1562
    have hfr1566 : rFr [q1517, q1516] P1514 F1515 F1561 := rFr_put' (List.mem_cons_of_mem _ List.mem_cons_self) hfr1560 n1563
    refine G_null dr_cJx4a65c_fastRemove_b59b0_41 ?_
    refine Gp_aastN 4 hmq1517 he1564 dr_cJx4a65c_fastRemove_b59b0_42 rfl (gB_inr (by omega) (by omega)) (fun F1567 e1568 n1569 => ?_)
    obtain ⟨f1570, hf1570⟩ : ∃ z, z = va_up f1557 z1535.toNatClampNeg none := ⟨_, rfl⟩
    rw [← hf1570] at e1568
    have he1571 : F1567 q1516 = .inr (4, [.int z1528, .ref q1517, .int z1535]) := (n1569 q1516 (rn_oa he1565 he1564)).trans he1565
    have he1572 : F1567 q1517 = .inl (I (.object "java/lang/Object"), n1522, .inr (.inr (.inr (.inr f1570)))) := e1568
    have hfr1573 : rFr [q1517, q1516] P1514 F1515 F1567 := rFr_put' List.mem_cons_self hfr1566 n1569
    exact G_vretA dr_cJx4a65c_fastRemove_b59b0_43 rfl (Nat.le_of_ble_eq_true rfl) (Nat.le_of_ble_eq_true rfl) ⟨F1567, z1528, z1535, f1570, rfl, rfl, hfr1573, he1571, he1572, (Nat.le_of_ble_eq_true rfl), (Nat.le_of_ble_eq_true rfl), (gB_w bz1535' (by decide) (by decide)), (by omega), (rI_del (m := _) hf1557 hf1570 (by omega) (by omega) (by omega) (by omega) (by omega)), (rSrc_upN hf1570 (rSrc_cpy hf1557 rSrc_rf rSrc_rf))⟩
abbrev ky_1507_ArrayList_remove : gKey := (cJx4a65c_remove_915e3, 4, "java/util/ArrayList", (some (FieldType.object "java/lang/Object")), [], "remove", fun _ _ => True)
def pp_1507_ArrayList_remove (D : va_G) (I : FieldType → ClassId) (P1492 : List Nat) (F1493 : Nat → va_E) (q1494 : Nat) (q1495 : Nat) (p1496 : Int32) (p1497 : Int32) (p1498 : Int32) (f1499 : Nat → Option Nat) (n1500 : Nat) (x1501 : Nat) : Option Value → va_W → Nat → Nat → Prop := fun r w dc ds => ∃ (F1600 : Nat → va_E) (o1596 : Int32) (o1597 : Int32) (f1598 : Nat → Option Nat), r = some (.ref x1501) ∧ w = va_pl P1492 F1600 ∧ rFr [q1495, q1494] P1492 F1493 F1600 ∧ F1600 q1494 = .inr (4, [.int o1596, .ref q1495, .int o1597]) ∧ F1600 q1495 = .inl (I (.object "java/lang/Object"), n1500, .inr (.inr (.inr (.inr f1598)))) ∧ dc ≤ 0 ∧ ds ≤ 0 ∧ gB o1597 (-1) 16777215 ∧ o1597.toInt = p1498.toInt - 1 ∧ ((∀ j : Nat, (j : Int) < p1496.toInt → f1598 j = f1499 j) ∧ ∀ j : Nat, p1496.toInt ≤ (j : Int) → (j : Int) < p1498.toInt - 1 → f1598 j = f1499 (j + 1)) ∧ rSrc f1598 f1499
set_option maxRecDepth 100000 in
set_option maxHeartbeats 4000000 in
theorem cp_1507_ArrayList_remove (l : Launch) (hl0 : l.stackTraces = false) (D : va_G) (I : FieldType → ClassId) (P1492 : List Nat) (F1493 : Nat → va_E) (q1494 : Nat) (q1495 : Nat) (p1496 : Int32) (p1497 : Int32) (p1498 : Int32) (f1499 : Nat → Option Nat) (n1500 : Nat) (x1501 : Nat) (hmq1494 : q1494 ∈ P1492) (hmq1495 : q1495 ∈ P1492) (heq1494 : F1493 q1494 = .inr (4, [.int p1497, .ref q1495, .int p1498])) (heq1495 : F1493 q1495 = .inl (I (.object "java/lang/Object"), n1500, .inr (.inr (.inr (.inr f1499))))) (bp1496 : gB p1496 0 16777216) (bp1498 : gB p1498 0 16777216) (x1502 : p1496.toInt < p1498.toInt) (x1503 : p1498.toInt ≤ (n1500 : Int)) (x1504 : rEl P1492 F1493 f1499) (x1505 : f1499 p1496.toNatClampNeg = some x1501) (x1506 : ((n1500 : Int) ≤ 16777216)) : CtA (gV D I) l yJx4a65c_remove_915e3 cJx4a65c_remove_915e3 4 (some (FieldType.object "java/lang/Object")) 2 43 0 0 [.ref q1494, .int p1496] (va_pl P1492 F1493) (pp_1507_ArrayList_remove D I P1492 F1493 q1494 q1495 p1496 p1497 p1498 f1499 n1500 x1501) gNA := by
  refine CtA_ofF hl0 (by decide +kernel) (Nat.le_of_ble_eq_true rfl) ?_
  have bp1497 := gB_any p1497
  refine G_iload_n 1 dr_cJx4a65c_remove_915e3_0 rfl ?_
  refine G_aload_n 0 dr_cJx4a65c_remove_915e3_1 rfl ?_
  refine Gp_get 2 hmq1494 heq1494 dr_cJx4a65c_remove_915e3_2 (gk_Jx4a65c D I) (Nat.le_of_ble_eq_true rfl) wr_7_18 rfl ?_
  refine Gw_callS (As := [.int p1496, .int p1498]) (gV_ok D I) (cp_28_Objects_checkIndex l hl0 D I P1492 F1493 p1496 p1498 bp1496 bp1498 (by omega)) dr_cJx4a65c_remove_915e3_5 ⟨wr_10_66, wr_1_40, wr_10_68, by decide, rfl, (Nat.le_of_ble_eq_true rfl), (Nat.le_of_ble_eq_true rfl)⟩ wr_10_67 (show 0 + 0 ≤ 0 by first | omega | decide) (show 0 + 0 ≤ 0 by first | omega | decide) (Nat.le_of_ble_eq_true rfl) (fun r1511 w1512 dc1508 ds1509 hp1510 => ?_) (fun _ _ _ _ _ z => z.elim)
  obtain ⟨rfl, rfl, hdc, hds, ht1513⟩ := hp1510
  change G _ _ _ _ _ _ _ (.int p1496 :: _) _ _ _
  refine G_widen (cs' := 0) (sl' := 0) (by omega) (by omega) ?_
  refine G_pop dr_cJx4a65c_remove_915e3_8 rfl ?_
  refine G_aload_n 0 dr_cJx4a65c_remove_915e3_9 rfl ?_
  refine Gp_get 1 hmq1494 heq1494 dr_cJx4a65c_remove_915e3_10 (gk_Jx4a65c D I) (Nat.le_of_ble_eq_true rfl) wr_7_17 rfl ?_
  refine G_astore_n (L' := [(2, .ref q1495), (0, .ref q1494), (1, .int p1496)]) dr_cJx4a65c_remove_915e3_13 (Nat.le_of_ble_eq_true rfl) rfl ?_
  refine G_aload_n 0 dr_cJx4a65c_remove_915e3_14 rfl ?_
  refine G_iload_n 2 dr_cJx4a65c_remove_915e3_15 rfl ?_
  refine Gp_aald 4 hmq1495 heq1495 dr_cJx4a65c_remove_915e3_16 rfl rfl (gB_inr (by omega) (by omega)) ?_
  rw [x1505]
  change G _ _ _ _ _ _ _ (.ref x1501 :: _) _ _ _
  refine G_astore_n (L' := [(3, .ref x1501), (2, .ref q1495), (0, .ref q1494), (1, .int p1496)]) dr_cJx4a65c_remove_915e3_17 (Nat.le_of_ble_eq_true rfl) rfl ?_
  refine G_aload_n 2 dr_cJx4a65c_remove_915e3_18 rfl ?_
  refine G_aload_n 1 dr_cJx4a65c_remove_915e3_19 rfl ?_
  refine G_iload_n 3 dr_cJx4a65c_remove_915e3_20 rfl ?_
  refine Gw_callV (As := [.ref q1495, .int p1496]) (gV_ok D I) (cp_1527_ArrayList_fastRemove l hl0 D I P1492 F1493 q1494 q1495 p1496 p1497 p1498 f1499 n1500 hmq1494 hmq1495 heq1494 heq1495 bp1496 bp1498 (by omega) (by omega) (rEl_frG (rEl_src x1504 rSrc_rf) (rSub_rf (P := P1492)) (rFr_rf (W := []) (P := P1492) (F := F1493)) rNg_n) (by omega)) dr_cJx4a65c_remove_915e3_21 ⟨wr_11_26, wr_1_18, wr_11_29, by decide, rfl, (Nat.le_of_ble_eq_true rfl), (Nat.le_of_ble_eq_true rfl)⟩ wr_11_28 wr_p_103 hmq1494 heq1494 rfl (show 0 + 0 ≤ 0 by first | omega | decide) (show 0 + 0 ≤ 0 by first | omega | decide) (Nat.le_of_ble_eq_true rfl) (fun r1582 w1583 dc1579 ds1580 hp1581 => ?_) (fun _ _ _ _ _ z => z.elim)
  obtain ⟨F1590, o1584, o1585, f1586, rfl, rfl, hfr1592, he1593, he1594, hdc, hds, bo1585, x1587, x1588, x1589⟩ := hp1581
  have hfr1595 : rFr [q1495, q1494] P1492 F1493 F1590 := rFr_call (rSub_rf (P := P1492)) (rFr_rf (W := []) (P := P1492) (F := F1493)) hfr1592 (fun b hb hn => ⟨nm_n, (nm_c (fun e => hn (e ▸ List.mem_cons_self)) (nm_c (fun e => hn (e ▸ (List.mem_cons_of_mem _ List.mem_cons_self))) nm_n))⟩)
  have bo1584 := gB_any o1584
  change G _ _ _ _ _ _ _ _ _ _ _
  refine G_widen (cs' := 0) (sl' := 0) (by omega) (by omega) ?_
  refine G_aload_n 0 dr_cJx4a65c_remove_915e3_24 rfl ?_
  exact G_aretA (FieldType.object "java/lang/Object") dr_cJx4a65c_remove_915e3_25 rfl (by first | exact Or.inl ⟨_, rfl⟩ | exact Or.inr ⟨_, rfl⟩) (Or.inr ⟨_, rfl⟩) (Nat.le_of_ble_eq_true rfl) (Nat.le_of_ble_eq_true rfl) ⟨F1590, o1584, o1585, f1586, rfl, rfl, hfr1595, he1593, he1594, (Nat.le_of_ble_eq_true rfl), (Nat.le_of_ble_eq_true rfl), bo1585, (by omega), (by assumption), (rSrc_tr x1589 rSrc_rf)⟩
abbrev ky_1618_AbstractCollection_init : gKey := (cJxa1e45_init_da8c8, 1, "java/util/AbstractCollection", none, [], "<init>", fun _ _ => True)
def pp_1618_AbstractCollection_init (D : va_G) (I : FieldType → ClassId) (P1613 : List Nat) (F1614 : Nat → va_E) (q1615 : Nat) (p1616 : Int32) (p1617 : Int32) : Option Value → va_W → Nat → Nat → Prop := fun r w dc ds => r = none ∧ w = va_pl P1613 F1614 ∧ dc ≤ 0 ∧ ds ≤ 0
set_option maxRecDepth 100000 in
set_option maxHeartbeats 4000000 in
theorem cp_1618_AbstractCollection_init (l : Launch) (hl0 : l.stackTraces = false) (D : va_G) (I : FieldType → ClassId) (P1613 : List Nat) (F1614 : Nat → va_E) (q1615 : Nat) (p1616 : Int32) (p1617 : Int32) (hmq1615 : q1615 ∈ P1613) (heq1615 : F1614 q1615 = .inr (4, [.int p1616, .null, .int p1617])) : CtA (gV D I) l yJxa1e45_init_da8c8 cJxa1e45_init_da8c8 1 none 1 12 0 0 [.ref q1615] (va_pl P1613 F1614) (pp_1618_AbstractCollection_init D I P1613 F1614 q1615 p1616 p1617) gNA := by
  refine CtA_ofF hl0 (by decide +kernel) (Nat.le_of_ble_eq_true rfl) ?_
  have bp1616 := gB_any p1616
  have bp1617 := gB_any p1617
  refine G_aload_n 0 dr_cJxa1e45_init_da8c8_0 rfl ?_
  refine G_obj dr_cJxa1e45_init_da8c8_1 wr_7_14 wr_1_51 wr_1_52 (Nat.le_of_ble_eq_true rfl) (Nat.le_of_ble_eq_true rfl) ?_
  exact G_vretA dr_cJxa1e45_init_da8c8_4 rfl (Nat.le_of_ble_eq_true rfl) (Nat.le_of_ble_eq_true rfl) ⟨rfl, rfl, (Nat.le_of_ble_eq_true rfl), (Nat.le_of_ble_eq_true rfl)⟩
abbrev ky_1612_AbstractList_init : gKey := (cJxc12de_init_da8c8, 1, "java/util/AbstractList", none, [], "<init>", fun _ _ => True)
def pp_1612_AbstractList_init (D : va_G) (I : FieldType → ClassId) (P1607 : List Nat) (F1608 : Nat → va_E) (q1609 : Nat) (p1610 : Int32) (p1611 : Int32) : Option Value → va_W → Nat → Nat → Prop := fun r w dc ds => ∃ (F1630 : Nat → va_E), r = none ∧ w = va_pl P1607 F1630 ∧ rFr [q1609] P1607 F1608 F1630 ∧ F1630 q1609 = .inr (4, [.int 0, .null, .int p1611]) ∧ dc ≤ 0 ∧ ds ≤ 0
set_option maxRecDepth 100000 in
set_option maxHeartbeats 4000000 in
theorem cp_1612_AbstractList_init (l : Launch) (hl0 : l.stackTraces = false) (D : va_G) (I : FieldType → ClassId) (P1607 : List Nat) (F1608 : Nat → va_E) (q1609 : Nat) (p1610 : Int32) (p1611 : Int32) (hmq1609 : q1609 ∈ P1607) (heq1609 : F1608 q1609 = .inr (4, [.int p1610, .null, .int p1611])) : CtA (gV D I) l yJxc12de_init_da8c8 cJxc12de_init_da8c8 1 none 2 32 0 0 [.ref q1609] (va_pl P1607 F1608) (pp_1612_AbstractList_init D I P1607 F1608 q1609 p1610 p1611) gNA := by
  refine CtA_ofF hl0 (by decide +kernel) (Nat.le_of_ble_eq_true rfl) ?_
  have bp1610 := gB_any p1610
  have bp1611 := gB_any p1611
  refine G_aload_n 0 dr_cJxc12de_init_da8c8_0 rfl ?_
  refine Gw_callI (As := []) (gV_ok D I) (cp_1618_AbstractCollection_init l hl0 D I P1607 F1608 q1609 p1610 p1611 hmq1609 heq1609) dr_cJxc12de_init_da8c8_1 ⟨wr_7_11, wr_1_16, wr_7_13, by decide, rfl, (Nat.le_of_ble_eq_true rfl), (Nat.le_of_ble_eq_true rfl)⟩ wr_7_12 rfl (show 0 + 0 ≤ 0 by first | omega | decide) (show 0 + 0 ≤ 0 by first | omega | decide) (Nat.le_of_ble_eq_true rfl) (fun r1622 w1623 dc1619 ds1620 hp1621 => ?_)
  obtain ⟨rfl, rfl, hdc, hds⟩ := hp1621
  change G _ _ _ _ _ _ _ _ _ _ _
  refine G_widen (cs' := 0) (sl' := 0) (by omega) (by omega) ?_
  refine G_aload_n 0 dr_cJxc12de_init_da8c8_4 rfl ?_
  refine G_iconst 0 dr_cJxc12de_init_da8c8_5 (by decide +kernel) ?_
  refine Gp_put 0 hmq1609 heq1609 dr_cJxc12de_init_da8c8_6 (gk_Jx4a65c D I) (Nat.le_of_ble_eq_true rfl) wr_7_19 rfl rfl rfl (Nat.le_of_ble_eq_true rfl) (fun F1624 e1625 n1626 => ?_)
  have he1627 : F1624 q1609 = .inr (4, [.int 0, .null, .int p1611]) := e1625
  have hfr1628 : rFr [q1609] P1607 F1608 F1624 := rFr_put (rFr_rf (W := []) (P := P1607) (F := F1608)) n1626
  exact G_vretA dr_cJxc12de_init_da8c8_9 rfl (Nat.le_of_ble_eq_true rfl) (Nat.le_of_ble_eq_true rfl) ⟨F1624, rfl, rfl, hfr1628, he1627, (Nat.le_of_ble_eq_true rfl), (Nat.le_of_ble_eq_true rfl)⟩
