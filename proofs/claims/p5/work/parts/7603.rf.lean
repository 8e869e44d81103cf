theorem dr_cJx4a65c_add_7a177_32 : decode cJx4a65c_add_7a177 32 = .ok (.aload_n 0, 1) := by decide +kernel
theorem dr_cJx4a65c_add_7a177_33 : decode cJx4a65c_add_7a177 33 = .ok (.invokevirtual 129, 3) := by decide +kernel
theorem dr_cJx4a65c_add_7a177_36 : decode cJx4a65c_add_7a177 36 = .ok (.astore 4, 2) := by decide +kernel
theorem dr_cJx4a65c_clear_da8c8_0 : decode cJx4a65c_clear_da8c8 0 = .ok (.aload_n 0, 1) := by decide +kernel
theorem dr_cJx4a65c_clear_da8c8_1 : decode cJx4a65c_clear_da8c8 1 = .ok (.dup, 1) := by decide +kernel
theorem dr_cJx4a65c_clear_da8c8_2 : decode cJx4a65c_clear_da8c8 2 = .ok (.getfield 63, 3) := by decide +kernel
theorem dr_cJx4a65c_clear_da8c8_5 : decode cJx4a65c_clear_da8c8 5 = .ok (.iconst 1, 1) := by decide +kernel
theorem dr_cJx4a65c_clear_da8c8_6 : decode cJx4a65c_clear_da8c8 6 = .ok (.iadd, 1) := by decide +kernel
theorem dr_cJx4a65c_clear_da8c8_7 : decode cJx4a65c_clear_da8c8 7 = .ok (.putfield 63, 3) := by decide +kernel
theorem dr_cJx4a65c_clear_da8c8_10 : decode cJx4a65c_clear_da8c8 10 = .ok (.aload_n 0, 1) := by decide +kernel
theorem dr_cJx4a65c_clear_da8c8_11 : decode cJx4a65c_clear_da8c8 11 = .ok (.getfield 9, 3) := by decide +kernel
theorem dr_cJx4a65c_clear_da8c8_14 : decode cJx4a65c_clear_da8c8 14 = .ok (.astore_n 1, 1) := by decide +kernel
theorem dr_cJx4a65c_clear_da8c8_15 : decode cJx4a65c_clear_da8c8 15 = .ok (.aload_n 0, 1) := by decide +kernel
theorem dr_cJx4a65c_clear_da8c8_16 : decode cJx4a65c_clear_da8c8 16 = .ok (.getfield 48, 3) := by decide +kernel
theorem dr_cJx4a65c_clear_da8c8_19 : decode cJx4a65c_clear_da8c8 19 = .ok (.istore_n 2, 1) := by decide +kernel
theorem dr_cJx4a65c_clear_da8c8_20 : decode cJx4a65c_clear_da8c8 20 = .ok (.aload_n 0, 1) := by decide +kernel
theorem dr_cJx4a65c_clear_da8c8_21 : decode cJx4a65c_clear_da8c8 21 = .ok (.iconst 0, 1) := by decide +kernel
theorem dr_cJx4a65c_clear_da8c8_22 : decode cJx4a65c_clear_da8c8 22 = .ok (.dup_x1, 1) := by decide +kernel
theorem dr_cJx4a65c_clear_da8c8_23 : decode cJx4a65c_clear_da8c8 23 = .ok (.putfield 48, 3) := by decide +kernel
theorem dr_cJx4a65c_clear_da8c8_26 : decode cJx4a65c_clear_da8c8 26 = .ok (.istore_n 3, 1) := by decide +kernel
theorem dr_cJx4a65c_clear_da8c8_27 : decode cJx4a65c_clear_da8c8 27 = .ok (.iload_n 3, 1) := by decide +kernel
theorem dr_cJx4a65c_clear_da8c8_28 : decode cJx4a65c_clear_da8c8 28 = .ok (.iload_n 2, 1) := by decide +kernel
theorem dr_cJx4a65c_clear_da8c8_29 : decode cJx4a65c_clear_da8c8 29 = .ok (.if_icmp .ge 13, 3) := by decide +kernel
theorem dr_cJx4a65c_clear_da8c8_42 : decode cJx4a65c_clear_da8c8 42 = .ok (.return_, 1) := by decide +kernel
theorem dr_cJx4a65c_clear_da8c8_32 : decode cJx4a65c_clear_da8c8 32 = .ok (.aload_n 1, 1) := by decide +kernel
theorem dr_cJx4a65c_clear_da8c8_33 : decode cJx4a65c_clear_da8c8 33 = .ok (.iload_n 3, 1) := by decide +kernel
theorem dr_cJx4a65c_clear_da8c8_34 : decode cJx4a65c_clear_da8c8 34 = .ok (.aconst_null, 1) := by decide +kernel
theorem dr_cJx4a65c_clear_da8c8_35 : decode cJx4a65c_clear_da8c8 35 = .ok (.aastore, 1) := by decide +kernel
theorem dr_cJx4a65c_clear_da8c8_36 : decode cJx4a65c_clear_da8c8 36 = .ok (.iinc 3 1, 3) := by decide +kernel
theorem dr_cJx4a65c_clear_da8c8_39 : decode cJx4a65c_clear_da8c8 39 = .ok (.goto (-12), 3) := by decide +kernel
theorem dr_cJx4a65c_fastRemove_b59b0_0 : decode cJx4a65c_fastRemove_b59b0 0 = .ok (.aload_n 0, 1) := by decide +kernel
theorem dr_cJx4a65c_fastRemove_b59b0_1 : decode cJx4a65c_fastRemove_b59b0 1 = .ok (.dup, 1) := by decide +kernel
theorem dr_cJx4a65c_fastRemove_b59b0_2 : decode cJx4a65c_fastRemove_b59b0 2 = .ok (.getfield 63, 3) := by decide +kernel
theorem dr_cJx4a65c_fastRemove_b59b0_5 : decode cJx4a65c_fastRemove_b59b0 5 = .ok (.iconst 1, 1) := by decide +kernel
theorem dr_cJx4a65c_fastRemove_b59b0_6 : decode cJx4a65c_fastRemove_b59b0 6 = .ok (.iadd, 1) := by decide +kernel
theorem dr_cJx4a65c_fastRemove_b59b0_7 : decode cJx4a65c_fastRemove_b59b0 7 = .ok (.putfield 63, 3) := by decide +kernel
theorem dr_cJx4a65c_fastRemove_b59b0_10 : decode cJx4a65c_fastRemove_b59b0 10 = .ok (.aload_n 0, 1) := by decide +kernel
theorem dr_cJx4a65c_fastRemove_b59b0_11 : decode cJx4a65c_fastRemove_b59b0 11 = .ok (.getfield 48, 3) := by decide +kernel
theorem dr_cJx4a65c_fastRemove_b59b0_14 : decode cJx4a65c_fastRemove_b59b0 14 = .ok (.iconst 1, 1) := by decide +kernel
theorem dr_cJx4a65c_fastRemove_b59b0_15 : decode cJx4a65c_fastRemove_b59b0 15 = .ok (.isub, 1) := by decide +kernel
theorem dr_cJx4a65c_fastRemove_b59b0_16 : decode cJx4a65c_fastRemove_b59b0 16 = .ok (.dup, 1) := by decide +kernel
theorem dr_cJx4a65c_fastRemove_b59b0_17 : decode cJx4a65c_fastRemove_b59b0 17 = .ok (.istore_n 3, 1) := by decide +kernel
theorem dr_cJx4a65c_fastRemove_b59b0_18 : decode cJx4a65c_fastRemove_b59b0 18 = .ok (.iload_n 2, 1) := by decide +kernel
theorem dr_cJx4a65c_fastRemove_b59b0_19 : decode cJx4a65c_fastRemove_b59b0 19 = .ok (.if_icmp .le 15, 3) := by decide +kernel
theorem dr_cJx4a65c_fastRemove_b59b0_34 : decode cJx4a65c_fastRemove_b59b0 34 = .ok (.aload_n 1, 1) := by decide +kernel
theorem dr_cJx4a65c_fastRemove_b59b0_35 : decode cJx4a65c_fastRemove_b59b0 35 = .ok (.aload_n 0, 1) := by decide +kernel
theorem dr_cJx4a65c_fastRemove_b59b0_36 : decode cJx4a65c_fastRemove_b59b0 36 = .ok (.iload_n 3, 1) := by decide +kernel
theorem dr_cJx4a65c_fastRemove_b59b0_37 : decode cJx4a65c_fastRemove_b59b0 37 = .ok (.dup_x1, 1) := by decide +kernel
theorem dr_cJx4a65c_fastRemove_b59b0_38 : decode cJx4a65c_fastRemove_b59b0 38 = .ok (.putfield 48, 3) := by decide +kernel
theorem dr_cJx4a65c_fastRemove_b59b0_41 : decode cJx4a65c_fastRemove_b59b0 41 = .ok (.aconst_null, 1) := by decide +kernel
theorem dr_cJx4a65c_fastRemove_b59b0_42 : decode cJx4a65c_fastRemove_b59b0 42 = .ok (.aastore, 1) := by decide +kernel
theorem dr_cJx4a65c_fastRemove_b59b0_43 : decode cJx4a65c_fastRemove_b59b0 43 = .ok (.return_, 1) := by decide +kernel
theorem dr_cJx4a65c_fastRemove_b59b0_22 : decode cJx4a65c_fastRemove_b59b0 22 = .ok (.aload_n 1, 1) := by decide +kernel
theorem dr_cJx4a65c_fastRemove_b59b0_23 : decode cJx4a65c_fastRemove_b59b0 23 = .ok (.iload_n 2, 1) := by decide +kernel
theorem dr_cJx4a65c_fastRemove_b59b0_24 : decode cJx4a65c_fastRemove_b59b0 24 = .ok (.iconst 1, 1) := by decide +kernel
theorem dr_cJx4a65c_fastRemove_b59b0_25 : decode cJx4a65c_fastRemove_b59b0 25 = .ok (.iadd, 1) := by decide +kernel
theorem dr_cJx4a65c_fastRemove_b59b0_26 : decode cJx4a65c_fastRemove_b59b0 26 = .ok (.aload_n 1, 1) := by decide +kernel
theorem dr_cJx4a65c_fastRemove_b59b0_27 : decode cJx4a65c_fastRemove_b59b0 27 = .ok (.iload_n 2, 1) := by decide +kernel
theorem dr_cJx4a65c_fastRemove_b59b0_28 : decode cJx4a65c_fastRemove_b59b0 28 = .ok (.iload_n 3, 1) := by decide +kernel
theorem dr_cJx4a65c_fastRemove_b59b0_29 : decode cJx4a65c_fastRemove_b59b0 29 = .ok (.iload_n 2, 1) := by decide +kernel
theorem dr_cJx4a65c_fastRemove_b59b0_30 : decode cJx4a65c_fastRemove_b59b0 30 = .ok (.isub, 1) := by decide +kernel
theorem dr_cJx4a65c_fastRemove_b59b0_31 : decode cJx4a65c_fastRemove_b59b0 31 = .ok (.invokestatic 112, 3) := by decide +kernel
theorem dr_cJx4a65c_remove_915e3_0 : decode cJx4a65c_remove_915e3 0 = .ok (.iload_n 1, 1) := by decide +kernel
theorem dr_cJx4a65c_remove_915e3_1 : decode cJx4a65c_remove_915e3 1 = .ok (.aload_n 0, 1) := by decide +kernel
theorem dr_cJx4a65c_remove_915e3_2 : decode cJx4a65c_remove_915e3 2 = .ok (.getfield 48, 3) := by decide +kernel
theorem dr_cJx4a65c_remove_915e3_5 : decode cJx4a65c_remove_915e3 5 = .ok (.invokestatic 118, 3) := by decide +kernel
theorem dr_cJx4a65c_remove_915e3_8 : decode cJx4a65c_remove_915e3 8 = .ok (.pop, 1) := by decide +kernel
theorem dr_cJx4a65c_remove_915e3_9 : decode cJx4a65c_remove_915e3 9 = .ok (.aload_n 0, 1) := by decide +kernel
theorem dr_cJx4a65c_remove_915e3_10 : decode cJx4a65c_remove_915e3 10 = .ok (.getfield 9, 3) := by decide +kernel
theorem dr_cJx4a65c_remove_915e3_13 : decode cJx4a65c_remove_915e3 13 = .ok (.astore_n 2, 1) := by decide +kernel
theorem dr_cJx4a65c_remove_915e3_14 : decode cJx4a65c_remove_915e3 14 = .ok (.aload_n 2, 1) := by decide +kernel
theorem dr_cJx4a65c_remove_915e3_15 : decode cJx4a65c_remove_915e3 15 = .ok (.iload_n 1, 1) := by decide +kernel
theorem dr_cJx4a65c_remove_915e3_16 : decode cJx4a65c_remove_915e3 16 = .ok (.aaload, 1) := by decide +kernel
theorem dr_cJx4a65c_remove_915e3_17 : decode cJx4a65c_remove_915e3 17 = .ok (.astore_n 3, 1) := by decide +kernel
theorem dr_cJx4a65c_remove_915e3_18 : decode cJx4a65c_remove_915e3 18 = .ok (.aload_n 0, 1) := by decide +kernel
theorem dr_cJx4a65c_remove_915e3_19 : decode cJx4a65c_remove_915e3 19 = .ok (.aload_n 2, 1) := by decide +kernel
theorem dr_cJx4a65c_remove_915e3_20 : decode cJx4a65c_remove_915e3 20 = .ok (.iload_n 1, 1) := by decide +kernel
theorem dr_cJx4a65c_remove_915e3_21 : decode cJx4a65c_remove_915e3 21 = .ok (.invokevirtual 144, 3) := by decide +kernel
theorem wr_11_22 : (Jvm.Cond.methodLink "java/util/ArrayList" (144 : Nat) ({ cls := "java/util/ArrayList", name := "fastRemove", desc := "([Ljava/lang/Object;I)V" } : Jvm.MethodName)) ∈ gw := gw_11 22 rfl rfl
theorem wr_11_25 : (Jvm.Cond.code ({ cls := "java/util/ArrayList", name := "fastRemove", desc := "([Ljava/lang/Object;I)V" } : Jvm.MethodName) prog_43_method_39_code (4 : Nat) (Option.none : Option Jvm.ClassFile.FieldType)) ∈ gw := gw_11 25 rfl rfl
theorem wr_11_24 : (Jvm.Cond.instanceMethod ({ cls := "java/util/ArrayList", name := "fastRemove", desc := "([Ljava/lang/Object;I)V" } : Jvm.MethodName)) ∈ gw := gw_11 24 rfl rfl
theorem wr_p_103 : Cond.selects "java/util/ArrayList" ⟨"java/util/ArrayList", "fastRemove", "([Ljava/lang/Object;I)V"⟩ ⟨"java/util/ArrayList", "fastRemove", "([Ljava/lang/Object;I)V"⟩ ∈ gw := gw_p _ 103 rfl rfl rfl
theorem dr_cJx4a65c_remove_915e3_24 : decode cJx4a65c_remove_915e3 24 = .ok (.aload_n 3, 1) := by decide +kernel
theorem dr_cJx4a65c_remove_915e3_25 : decode cJx4a65c_remove_915e3 25 = .ok (.areturn, 1) := by decide +kernel
theorem dr_cJxa1e45_init_da8c8_0 : decode cJxa1e45_init_da8c8 0 = .ok (.aload_n 0, 1) := by decide +kernel
theorem dr_cJxa1e45_init_da8c8_1 : decode cJxa1e45_init_da8c8 1 = .ok (.invokespecial 1, 3) := by decide +kernel
theorem wr_7_14 : (Jvm.Cond.methodLink "java/util/AbstractCollection" (1 : Nat) ({ cls := "java/lang/Object", name := "<init>", desc := "()V" } : Jvm.MethodName)) ∈ gw := gw_7 14 rfl rfl
theorem wr_1_51 : (Jvm.Cond.instanceMethod ({ cls := "java/lang/Object", name := "<init>", desc := "()V" } : Jvm.MethodName)) ∈ gw := gw_1 51 rfl rfl
theorem wr_1_52 : (Jvm.Cond.code ({ cls := "java/lang/Object", name := "<init>", desc := "()V" } : Jvm.MethodName) object_method_1_code (1 : Nat) (Option.none : Option Jvm.ClassFile.FieldType)) ∈ gw := gw_1 52 rfl rfl
theorem dr_cJxa1e45_init_da8c8_4 : decode cJxa1e45_init_da8c8 4 = .ok (.return_, 1) := by decide +kernel
theorem dr_cJxc12de_init_da8c8_0 : decode cJxc12de_init_da8c8 0 = .ok (.aload_n 0, 1) := by decide +kernel
theorem dr_cJxc12de_init_da8c8_1 : decode cJxc12de_init_da8c8 1 = .ok (.invokespecial 1, 3) := by decide +kernel
theorem wr_7_11 : (Jvm.Cond.methodLink "java/util/AbstractList" (1 : Nat) ({ cls := "java/util/AbstractCollection", name := "<init>", desc := "()V" } : Jvm.MethodName)) ∈ gw := gw_7 11 rfl rfl
theorem wr_1_16 : (Jvm.Cond.initialized "java/util/AbstractCollection") ∈ gw := gw_1 16 rfl rfl
theorem wr_7_13 : (Jvm.Cond.code ({ cls := "java/util/AbstractCollection", name := "<init>", desc := "()V" } : Jvm.MethodName) prog_41_method_1_code (1 : Nat) (Option.none : Option Jvm.ClassFile.FieldType)) ∈ gw := gw_7 13 rfl rfl
theorem wr_7_12 : (Jvm.Cond.instanceMethod ({ cls := "java/util/AbstractCollection", name := "<init>", desc := "()V" } : Jvm.MethodName)) ∈ gw := gw_7 12 rfl rfl
theorem dr_cJxc12de_init_da8c8_4 : decode cJxc12de_init_da8c8 4 = .ok (.aload_n 0, 1) := by decide +kernel
theorem dr_cJxc12de_init_da8c8_5 : decode cJxc12de_init_da8c8 5 = .ok (.iconst 0, 1) := by decide +kernel
theorem dr_cJxc12de_init_da8c8_6 : decode cJxc12de_init_da8c8 6 = .ok (.putfield 7, 3) := by decide +kernel
theorem wr_7_19 : (Jvm.Cond.fieldLink "java/util/AbstractList" (7 : Nat) "java/util/AbstractList" "modCount" "I") ∈ gw := gw_7 19 rfl rfl
theorem dr_cJxc12de_init_da8c8_9 : decode cJxc12de_init_da8c8 9 = .ok (.return_, 1) := by decide +kernel
abbrev ky_1137_ArrayList_add : gKey := (cJx4a65c_add_7a177, 5, "java/util/ArrayList", none, [], "add", fun _ _ => True)
def pp_1137_ArrayList_add (D : va_G) (I : FieldType → ClassId) (P1114 : List Nat) (F1115 : Nat → va_E) (q1116 : Nat) (q1117 : Nat) (q1118 : Nat) (p1119 : Int32) (p1120 : Int32) (p1121 : Int32) (p1122 : Int32) (p1123 : Int32) (p1124 : Int32) (p1125 : Int32) (p1126 : Int32) (p1127 : Int32) (p1128 : Int32) (f1129 : Nat → Option Nat) (n1130 : Nat) : Option Value → va_W → Nat → Nat → Prop := fun r w dc ds => ∃ (P1216 : List Nat) (F1217 : Nat → va_E) (o1211 : Int32) (o1212 : Int32) (q1213 : Nat) (n1214 : Nat) (f1215 : Nat → Option Nat), r = none ∧ w = va_pl P1216 F1217 ∧ rSub P1114 P1216 ∧ rFr [q1116] P1114 F1115 F1217 ∧ F1217 q1117 = .inr (20, [.int p1122, .int p1123, .int p1124, .int p1125, .int p1126, .int p1127, .int p1128]) ∧ F1217 q1116 = .inr (4, [.int o1211, .ref q1213, .int o1212]) ∧ F1217 q1213 = .inl (I (.object "java/lang/Object"), n1214, .inr (.inr (.inr (.inr f1215)))) ∧ q1213 ∈ P1216 ∧ q1213 ∉ P1114 ∧ dc ≤ 1 ∧ ds ≤ n1130 + n1130 / 2 + 1 ∧ gB o1212 1 16777217 ∧ o1212.toInt = p1121.toInt + 1 ∧ ((∀ j : Nat, (j : Int) < p1119.toInt → f1215 j = f1129 j) ∧ f1215 p1119.toInt.toNat = some q1117 ∧ ∀ j : Nat, p1119.toInt ≤ (j : Int) → (j : Int) < p1121.toInt → f1215 (j + 1) = f1129 j) ∧ rSrcX f1215 f1129 q1117 ∧ ((n1214 : Int) ≤ (n1130 : Int) + (n1130 : Int) / 2 + 1 ∧ (n1130 : Int) + 1 ≤ (n1214 : Int) ∧ (n1130 : Int) + (n1130 : Int) / 2 ≤ (n1214 : Int))
set_option maxRecDepth 100000 in
set_option maxHeartbeats 4000000 in
theorem cp_1137_ArrayList_add (l : Launch) (hl0 : l.stackTraces = false) (D : va_G) (I : FieldType → ClassId) (P1114 : List Nat) (F1115 : Nat → va_E) (q1116 : Nat) (q1117 : Nat) (q1118 : Nat) (p1119 : Int32) (p1120 : Int32) (p1121 : Int32) (p1122 : Int32) (p1123 : Int32) (p1124 : Int32) (p1125 : Int32) (p1126 : Int32) (p1127 : Int32) (p1128 : Int32) (f1129 : Nat → Option Nat) (n1130 : Nat) (hmq1116 : q1116 ∈ P1114) (hmq1117 : q1117 ∈ P1114) (hmq1118 : q1118 ∈ P1114) (heq1116 : F1115 q1116 = .inr (4, [.int p1120, .ref q1118, .int p1121])) (heq1117 : F1115 q1117 = .inr (20, [.int p1122, .int p1123, .int p1124, .int p1125, .int p1126, .int p1127, .int p1128])) (heq1118 : F1115 q1118 = .inl (I (.object "java/lang/Object"), n1130, .inr (.inr (.inr (.inr f1129))))) (bp1119 : gB p1119 0 16777216) (bp1121 : gB p1121 0 16777216) (bp1122 : gB p1122 0 32) (bp1123 : gB p1123 0 1999) (bp1126 : gB p1126 0 1999) (bp1127 : gB p1127 0 1) (bp1128 : gB p1128 0 1) (x1131 : 0 < (n1130 : Int)) (x1132 : (n1130 : Int) ≤ 1000000) (x1133 : p1121.toInt = (n1130 : Int)) (x1134 : p1119.toInt ≤ p1121.toInt) (x1135 : rEl P1114 F1115 f1129) (x1136 : ((n1130 : Int) ≤ 16777216)) : CtA (gV D I) l yJx4a65c_add_7a177 cJx4a65c_add_7a177 5 none 5 105 1 (n1130 + n1130 / 2 + 1) [.ref q1116, .int p1119, .ref q1117] (va_pl P1114 F1115) (pp_1137_ArrayList_add D I P1114 F1115 q1116 q1117 q1118 p1119 p1120 p1121 p1122 p1123 p1124 p1125 p1126 p1127 p1128 f1129 n1130) gNA := by
  refine CtA_ofF hl0 (by decide +kernel) (Nat.le_of_ble_eq_true rfl) ?_
  have bp1120 := gB_any p1120
  have bp1124 := gB_any p1124
  have bp1125 := gB_any p1125
  refine G_aload_n 0 dr_cJx4a65c_add_7a177_0 rfl ?_
  refine G_iload_n 1 dr_cJx4a65c_add_7a177_1 rfl ?_
  refine Gw_callV (As := [.int p1119]) (gV_ok D I) (cp_1062_ArrayList_rangeCheckForAdd l hl0 D I P1114 F1115 q1116 q1118 p1119 p1120 p1121 f1129 n1130 hmq1116 hmq1118 heq1116 heq1118 bp1119 bp1121 (by omega) (by omega)) dr_cJx4a65c_add_7a177_2 ⟨wr_10_207, wr_1_18, wr_10_210, by decide, rfl, (Nat.le_of_ble_eq_true rfl), (Nat.le_of_ble_eq_true rfl)⟩ wr_10_209 wr_p_97 hmq1116 heq1116 rfl (show 0 + 0 ≤ 1 by first | omega | decide) (show 0 + 0 ≤ (n1130 + n1130 / 2 + 1) by first | omega | decide) (Nat.le_of_ble_eq_true rfl) (fun r1141 w1142 dc1138 ds1139 hp1140 => ?_) (fun _ _ _ _ _ z => z.elim)
  obtain ⟨rfl, rfl, hdc, hds⟩ := hp1140
  change G _ _ _ _ _ _ _ _ _ _ _
  refine G_widen (cs' := 0) (sl' := 0) (by omega) (by omega) ?_
  refine G_aload_n 0 dr_cJx4a65c_add_7a177_5 rfl ?_
  refine G_dup dr_cJx4a65c_add_7a177_6 rfl ?_
  refine Gp_getS 0 hmq1116 heq1116 dr_cJx4a65c_add_7a177_7 (gk_Jx4a65c D I) (Nat.le_of_ble_eq_true rfl) wr_7_20 wr_7_21 rfl ?_
  refine G_iconst 1 dr_cJx4a65c_add_7a177_10 (by decide +kernel) ?_
  refine G_iadd dr_cJx4a65c_add_7a177_11 (G_nam fun z1143 hz1143 => ?_)
  have bz1143 : gB z1143 (-2147483648) 2147483647 := gB_any z1143
  refine Gp_putS 0 hmq1116 heq1116 dr_cJx4a65c_add_7a177_12 (gk_Jx4a65c D I) (Nat.le_of_ble_eq_true rfl) wr_7_20 wr_7_21 rfl rfl rfl (Nat.le_of_ble_eq_true rfl) (fun F1144 e1145 n1146 => ?_)
  have he1147 : F1144 q1117 = .inr (20, [.int p1122, .int p1123, .int p1124, .int p1125, .int p1126, .int p1127, .int p1128]) := (n1146 q1117 (rn_oo heq1117 heq1116 (by decide))).trans heq1117
  have he1148 : F1144 q1118 = .inl (I (.object "java/lang/Object"), n1130, .inr (.inr (.inr (.inr f1129)))) := (n1146 q1118 (rn_ao heq1118 heq1116)).trans heq1118
  have he1149 : F1144 q1116 = .inr (4, [.int z1143, .ref q1118, .int p1121]) := e1145
  have hfr1150 : rFr [q1116] P1114 F1115 F1144 := rFr_put (rFr_rf (W := []) (P := P1114) (F := F1115)) n1146
  refine G_aload_n 0 dr_cJx4a65c_add_7a177_15 rfl ?_
  refine Gp_get 2 hmq1116 he1149 dr_cJx4a65c_add_7a177_16 (gk_Jx4a65c D I) (Nat.le_of_ble_eq_true rfl) wr_7_18 rfl ?_
  refine G_dup dr_cJx4a65c_add_7a177_19 rfl ?_
  refine G_istore_n (L' := [(3, .int p1121), (0, .ref q1116), (1, .int p1119), (2, .ref q1117)]) dr_cJx4a65c_add_7a177_20 (Nat.le_of_ble_eq_true rfl) rfl ?_
  refine G_aload_n 1 dr_cJx4a65c_add_7a177_21 rfl ?_
  refine Gp_get 1 hmq1116 he1149 dr_cJx4a65c_add_7a177_22 (gk_Jx4a65c D I) (Nat.le_of_ble_eq_true rfl) wr_7_17 rfl ?_
  refine G_dup dr_cJx4a65c_add_7a177_25 rfl ?_
  refine G_astore (L' := [(4, .ref q1118), (3, .int p1121), (0, .ref q1116), (1, .int p1119), (2, .ref q1117)]) dr_cJx4a65c_add_7a177_26 (Nat.le_of_ble_eq_true rfl) rfl ?_
  refine Gp_alen (Int32.ofNat n1130) 4 hmq1118 he1148 dr_cJx4a65c_add_7a177_28 rfl rfl (G_nam fun z1151 hz1151 => ?_)
  have ez1151 : z1151.toInt = (n1130 : Nat) := gI_ofM hz1151 (by omega)
  have bz1151 : gB z1151 0 16777216 := ⟨by omega, by omega⟩
  refine G_icmp_ne 38 dr_cJx4a65c_add_7a177_29 (by decide +kernel) (fun hc => absurd (show False by have := gC_ne hc; omega) not_false) (fun hc1152 => ?_)
  have r1154 : p1121.toInt = z1151.toInt := gC_eq hc1152
  refine G_aload_n 2 dr_cJx4a65c_add_7a177_32 rfl ?_
  refine Gw_callV (As := []) (gV_ok D I) (cp_324_ArrayList_grow l hl0 D I P1114 F1144 q1116 q1118 z1143 p1121 f1129 n1130 hmq1116 hmq1118 he1149 he1148 bp1121 (by omega) (by omega) (by omega) (rEl_frG (rEl_src x1135 rSrc_rf) (rSub_rf (P := P1114)) hfr1150 (rNg_c (rNg_o heq1116 (by decide) (by decide)) rNg_n)) (by omega)) dr_cJx4a65c_add_7a177_33 ⟨wr_10_7, wr_1_18, wr_10_10, by decide, rfl, (Nat.le_of_ble_eq_true rfl), (Nat.le_of_ble_eq_true rfl)⟩ wr_10_9 wr_p_86 hmq1116 he1149 rfl (show 0 + 1 ≤ 1 by first | omega | decide) (show 0 + (n1130 + n1130 / 2 + 1) ≤ (n1130 + n1130 / 2 + 1) by first | omega | decide) (Nat.le_of_ble_eq_true rfl) (fun r1158 w1159 dc1155 ds1156 hp1157 => ?_) (fun _ _ _ _ _ z => z.elim)
  obtain ⟨P1166, F1167, q1160, n1161, f1162, rfl, rfl, hsb1168, hfr1169, he1170, he1171, hm1172, hq1173, hdc, hds, x1163, x1164, x1165⟩ := hp1157
  have hm1174 : q1116 ∈ P1166 := hsb1168 q1116 hmq1116
  have hm1175 : q1117 ∈ P1166 := hsb1168 q1117 hmq1117
  have hm1176 : q1118 ∈ P1166 := hsb1168 q1118 hmq1118
  have hq1177 : q1160 ∉ P1114 := fun z => hq1173 ((rSub_rf (P := P1114)) q1160 z)
  have hsb1178 : rSub P1114 P1166 := rSub_tr (rSub_rf (P := P1114)) hsb1168
  have he1179 : F1167 q1117 = .inr (20, [.int p1122, .int p1123, .int p1124, .int p1125, .int p1126, .int p1127, .int p1128]) := (hfr1169 q1117 hmq1117 (nm_c (rn_oo he1147 he1149 (by decide)) nm_n)).trans he1147
  have he1180 : F1167 q1118 = .inl (I (.object "java/lang/Object"), n1130, .inr (.inr (.inr (.inr f1129)))) := (hfr1169 q1118 hmq1118 (nm_c (rn_ao he1148 he1149) nm_n)).trans he1148
  have hfr1181 : rFr [q1116] P1114 F1115 F1167 := rFr_call (rSub_rf (P := P1114)) hfr1150 hfr1169 (fun b hb hn => ⟨(nm_c (fun e => hn (e ▸ List.mem_cons_self)) nm_n), (nm_c (fun e => hn (e ▸ List.mem_cons_self)) nm_n)⟩)
  change G _ _ _ _ _ _ _ (.ref q1160 :: _) _ _ _
  refine G_widen (cs' := 1) (sl' := n1130 + n1130 / 2 + 1) (by omega) (by omega) ?_
  refine G_astore (L' := [(4, .ref q1160), (3, .int p1121), (0, .ref q1116), (1, .int p1119), (2, .ref q1117)]) dr_cJx4a65c_add_7a177_36 (Nat.le_of_ble_eq_true rfl) rfl ?_
  refine G_aload 0 dr_cJx4a65c_add_7a177_38 rfl ?_
  refine G_iload_n 3 dr_cJx4a65c_add_7a177_40 rfl ?_
  refine G_aload 0 dr_cJx4a65c_add_7a177_41 rfl ?_
  refine G_iload_n 3 dr_cJx4a65c_add_7a177_43 rfl ?_
  refine G_iconst 1 dr_cJx4a65c_add_7a177_44 (by decide +kernel) ?_
  refine G_iadd dr_cJx4a65c_add_7a177_45 (G_nam fun z1182 hz1182 => ?_)
  have ez1182 : z1182.toInt = p1119.toInt + 1 := by rw [gI_add hz1182 bp1119 (gBl (show Int32.toInt 1 = 1 by decide)) (by decide) (by decide), show Int32.toInt 1 = 1 from by decide]
  have bz1182 : gB z1182 1 16777217 := gB_add (gI_add hz1182 bp1119 (gBl (show Int32.toInt 1 = 1 by decide)) (by decide) (by decide)) bp1119 (gBl (show Int32.toInt 1 = 1 by decide)) (by decide) (by decide)
  refine G_iload_n 1 dr_cJx4a65c_add_7a177_46 rfl ?_
  refine G_iload_n 3 dr_cJx4a65c_add_7a177_47 rfl ?_
  refine G_isub dr_cJx4a65c_add_7a177_48 (G_nam fun z1183 hz1183 => ?_)
  have ez1183 : z1183.toInt = p1121.toInt - p1119.toInt := by rw [gI_sub hz1183 bp1121 bp1119 (by decide) (by decide)]
  have bz1183 : gB z1183 (-16777216) 16777216 := gB_sub (gI_sub hz1183 bp1121 bp1119 (by decide) (by decide)) bp1121 bp1119 (by decide) (by decide)
  refine Gp_copyq 4 hm1172 hm1172 he1171 he1171 dr_cJx4a65c_add_7a177_49 wr_10_224 wr_5_113 wr_5_112 wr_1_34 rfl (by omega) (by omega) (by omega) (by omega) (by omega) (fun j _ w hw => rEl_ob (rEl_frG (rEl_src x1135 (rSrc_tr x1164 rSrc_rf)) hsb1178 hfr1181 (rNg_c (rNg_o heq1116 (by decide) (by decide)) rNg_n)) hw) (Nat.le_of_ble_eq_true rfl) (Nat.le_of_ble_eq_true rfl) (fun F1184 e1185 n1186 => ?_)
  obtain ⟨f1187, hf1187⟩ : ∃ z, z = va_cpy f1162 f1162 p1119.toNatClampNeg z1182.toNatClampNeg z1183.toNatClampNeg := ⟨_, rfl⟩
  rw [← hf1187] at e1185
  have he1188 : F1184 q1117 = .inr (20, [.int p1122, .int p1123, .int p1124, .int p1125, .int p1126, .int p1127, .int p1128]) := (n1186 q1117 (fun h => hq1177 (h ▸ hmq1117))).trans he1179
  have he1189 : F1184 q1118 = .inl (I (.object "java/lang/Object"), n1130, .inr (.inr (.inr (.inr f1129)))) := (n1186 q1118 (fun h => hq1177 (h ▸ hmq1118))).trans he1180
  have he1190 : F1184 q1116 = .inr (4, [.int z1143, .ref q1160, .int p1121]) := (n1186 q1116 (fun h => hq1177 (h ▸ hmq1116))).trans he1170
  have he1191 : F1184 q1160 = .inl (I (.object "java/lang/Object"), n1161, .inr (.inr (.inr (.inr f1187)))) := e1185
  have hfr1192 : rFr [q1116] P1114 F1115 F1184 := rFr_newp hq1177 hfr1181 n1186
  refine G_aload 0 dr_cJx4a65c_add_7a177_52 rfl ?_
  refine G_iload_n 3 dr_cJx4a65c_add_7a177_54 rfl ?_
  refine G_aload_n 4 dr_cJx4a65c_add_7a177_55 rfl ?_
  refine Gp_aast 4 hm1172 he1191 dr_cJx4a65c_add_7a177_56 rfl ⟨hm1175, _, _, _, _, _, he1188, rfl, gr_cast 3 rfl⟩ (gB_inr (by omega) (by omega)) (fun F1193 e1194 n1195 => ?_)
  obtain ⟨f1196, hf1196⟩ : ∃ z, z = va_up f1187 p1119.toNatClampNeg (some q1117) := ⟨_, rfl⟩
  rw [← hf1196] at e1194
  have he1197 : F1193 q1117 = .inr (20, [.int p1122, .int p1123, .int p1124, .int p1125, .int p1126, .int p1127, .int p1128]) := (n1195 q1117 (fun h => hq1177 (h ▸ hmq1117))).trans he1188
  have he1198 : F1193 q1118 = .inl (I (.object "java/lang/Object"), n1130, .inr (.inr (.inr (.inr f1129)))) := (n1195 q1118 (fun h => hq1177 (h ▸ hmq1118))).trans he1189
  have he1199 : F1193 q1116 = .inr (4, [.int z1143, .ref q1160, .int p1121]) := (n1195 q1116 (fun h => hq1177 (h ▸ hmq1116))).trans he1190
  have he1200 : F1193 q1160 = .inl (I (.object "java/lang/Object"), n1161, .inr (.inr (.inr (.inr f1196)))) := e1194
  have hfr1201 : rFr [q1116] P1114 F1115 F1193 := rFr_newp hq1177 hfr1192 n1195
  refine G_aload_n 2 dr_cJx4a65c_add_7a177_57 rfl ?_
  refine G_iload_n 1 dr_cJx4a65c_add_7a177_58 rfl ?_
  refine G_iconst 1 dr_cJx4a65c_add_7a177_59 (by decide +kernel) ?_
  refine G_iadd dr_cJx4a65c_add_7a177_60 (G_nam fun z1202 hz1202 => ?_)
  have ez1202 : z1202.toInt = p1121.toInt + 1 := by rw [gI_add hz1202 bp1121 (gBl (show Int32.toInt 1 = 1 by decide)) (by decide) (by decide), show Int32.toInt 1 = 1 from by decide]
  have bz1202 : gB z1202 1 16777217 := gB_add (gI_add hz1202 bp1121 (gBl (show Int32.toInt 1 = 1 by decide)) (by decide) (by decide)) bp1121 (gBl (show Int32.toInt 1 = 1 by decide)) (by decide) (by decide)
  refine Gp_put 2 hm1174 he1199 dr_cJx4a65c_add_7a177_61 (gk_Jx4a65c D I) (Nat.le_of_ble_eq_true rfl) wr_7_18 rfl rfl rfl (Nat.le_of_ble_eq_true rfl) (fun F1203 e1204 n1205 => ?_)
  have he1206 : F1203 q1117 = .inr (20, [.int p1122, .int p1123, .int p1124, .int p1125, .int p1126, .int p1127, .int p1128]) := (n1205 q1117 (rn_oo he1197 he1199 (by decide))).trans he1197
  have he1207 : F1203 q1118 = .inl (I (.object "java/lang/Object"), n1130, .inr (.inr (.inr (.inr f1129)))) := (n1205 q1118 (rn_ao he1198 he1199)).trans he1198
  have he1208 : F1203 q1160 = .inl (I (.object "java/lang/Object"), n1161, .inr (.inr (.inr (.inr f1196)))) := (n1205 q1160 (fun h => hq1177 (h ▸ hmq1116))).trans he1200
  have he1209 : F1203 q1116 = .inr (4, [.int z1143, .ref q1160, .int z1202]) := e1204
  have hfr1210 : rFr [q1116] P1114 F1115 F1203 := rFr_put' List.mem_cons_self hfr1201 n1205
  exact G_vretA dr_cJx4a65c_add_7a177_64 rfl (Nat.le_of_ble_eq_true rfl) (show n1130 + n1130 / 2 + 1 ≤ (n1130 + n1130 / 2 + 1) by omega) ⟨P1166, F1203, z1143, z1202, q1160, n1161, f1196, rfl, rfl, hsb1178, hfr1210, he1206, he1209, he1208, hm1172, hq1177, (Nat.le_of_ble_eq_true rfl), (by omega), bz1202, (by omega), (rI_ins (m := _) (fun j hj => x1163 j (by omega)) hf1187 hf1196 (by omega) (by omega) (by omega) (by omega)), (rSrcX_up hf1196 (rSrc_cpy hf1187 (rSrc_tr x1164 rSrc_rf) (rSrc_tr x1164 rSrc_rf))), (by omega)⟩
abbrev ky_1242_ArrayList_rangeCheckForAdd : gKey := (cJx4a65c_rangeCheckForAdd_d00df, 2, "java/util/ArrayList", none, [], "rangeCheckForAdd", fun _ _ => True)
def pp_1242_ArrayList_rangeCheckForAdd (D : va_G) (I : FieldType → ClassId) (P1235 : List Nat) (F1236 : Nat → va_E) (q1237 : Nat) (p1238 : Int32) (p1239 : Int32) (p1240 : Int32) : Option Value → va_W → Nat → Nat → Prop := fun r w dc ds => r = none ∧ w = va_pl P1235 F1236 ∧ dc ≤ 0 ∧ ds ≤ 0
set_option maxRecDepth 100000 in
set_option maxHeartbeats 4000000 in
theorem cp_1242_ArrayList_rangeCheckForAdd (l : Launch) (hl0 : l.stackTraces = false) (D : va_G) (I : FieldType → ClassId) (P1235 : List Nat) (F1236 : Nat → va_E) (q1237 : Nat) (p1238 : Int32) (p1239 : Int32) (p1240 : Int32) (hmq1237 : q1237 ∈ P1235) (heq1237 : F1236 q1237 = .inr (4, [.int p1239, .ref (D.2 1002 1), .int p1240])) (bp1238 : gB p1238 0 16777216) (bp1240 : gB p1240 0 16777216) (x1241 : p1238.toInt ≤ p1240.toInt) : CtA (gV D I) l yJx4a65c_rangeCheckForAdd_d00df cJx4a65c_rangeCheckForAdd_d00df 2 none 0 0 0 0 [.ref q1237, .int p1238] (va_pl P1235 F1236) (pp_1242_ArrayList_rangeCheckForAdd D I P1235 F1236 q1237 p1238 p1239 p1240) gNA := by
  refine CtA_ofF hl0 (by decide +kernel) (Nat.le_of_ble_eq_true rfl) ?_
  have bp1239 := gB_any p1239
  refine G_iload_n 1 dr_cJx4a65c_rangeCheckForAdd_d00df_0 rfl ?_
  refine G_aload_n 0 dr_cJx4a65c_rangeCheckForAdd_d00df_1 rfl ?_
  refine Gp_get 2 hmq1237 heq1237 dr_cJx4a65c_rangeCheckForAdd_d00df_2 (gk_Jx4a65c D I) (Nat.le_of_ble_eq_true rfl) wr_7_18 rfl ?_
  refine G_icmp_gt 12 dr_cJx4a65c_rangeCheckForAdd_d00df_5 (by decide +kernel) (fun hc => absurd (show False by have := gC_lt hc; omega) not_false) (fun hc1243 => ?_)
  have r1245 : p1238.toInt ≤ p1240.toInt := gC_nlt hc1243
  refine G_iload_n 1 dr_cJx4a65c_rangeCheckForAdd_d00df_8 rfl ?_
  refine G_if_ge 25 dr_cJx4a65c_rangeCheckForAdd_d00df_9 (by decide +kernel) (fun _ => ?_) (fun hc => absurd (show False by have := gj_nleL hc (show Int32.toInt 0 = 0 by decide); omega) not_false)
  exact G_vretA dr_cJx4a65c_rangeCheckForAdd_d00df_25 rfl (Nat.le_of_ble_eq_true rfl) (Nat.le_of_ble_eq_true rfl) ⟨rfl, rfl, (Nat.le_of_ble_eq_true rfl), (Nat.le_of_ble_eq_true rfl)⟩
abbrev ky_1234_ArrayList_add : gKey := (cJx4a65c_add_7a177, 5, "java/util/ArrayList", none, [], "add", fun _ _ => True)
def pp_1234_ArrayList_add (D : va_G) (I : FieldType → ClassId) (P1218 : List Nat) (F1219 : Nat → va_E) (q1220 : Nat) (q1221 : Nat) (p1222 : Int32) (p1223 : Int32) (p1224 : Int32) (p1225 : Int32) (p1226 : Int32) (p1227 : Int32) (p1228 : Int32) (p1229 : Int32) (p1230 : Int32) (p1231 : Int32) : Option Value → va_W → Nat → Nat → Prop := fun r w dc ds => ∃ (P1314 : List Nat) (F1315 : Nat → va_E) (o1309 : Int32) (o1310 : Int32) (q1311 : Nat) (n1312 : Nat) (f1313 : Nat → Option Nat), r = none ∧ w = va_pl P1314 F1315 ∧ rSub P1218 P1314 ∧ rFr [q1220] P1218 F1219 F1315 ∧ F1315 q1221 = .inr (20, [.int p1225, .int p1226, .int p1227, .int p1228, .int p1229, .int p1230, .int p1231]) ∧ F1315 q1220 = .inr (4, [.int o1309, .ref q1311, .int o1310]) ∧ F1315 q1311 = .inl (I (.object "java/lang/Object"), n1312, .inr (.inr (.inr (.inr f1313)))) ∧ q1311 ∈ P1314 ∧ q1311 ∉ P1218 ∧ dc ≤ 1 ∧ ds ≤ 10 ∧ gB o1310 1 1 ∧ o1310.toInt = p1224.toInt + 1 ∧ f1313 p1222.toInt.toNat = some q1221 ∧ (∀ j w, f1313 j = some w → w = q1221) ∧ (n1312 : Int) = 10
set_option maxRecDepth 100000 in
set_option maxHeartbeats 4000000 in
theorem cp_1234_ArrayList_add (l : Launch) (hl0 : l.stackTraces = false) (D : va_G) (I : FieldType → ClassId) (P1218 : List Nat) (F1219 : Nat → va_E) (q1220 : Nat) (q1221 : Nat) (p1222 : Int32) (p1223 : Int32) (p1224 : Int32) (p1225 : Int32) (p1226 : Int32) (p1227 : Int32) (p1228 : Int32) (p1229 : Int32) (p1230 : Int32) (p1231 : Int32) (hmq1220 : q1220 ∈ P1218) (hmq1221 : q1221 ∈ P1218) (heq1220 : F1219 q1220 = .inr (4, [.int p1223, .ref (D.2 1002 1), .int p1224])) (heq1221 : F1219 q1221 = .inr (20, [.int p1225, .int p1226, .int p1227, .int p1228, .int p1229, .int p1230, .int p1231])) (bp1222 : gB p1222 0 16777216) (bp1224 : gB p1224 0 16777216) (bp1225 : gB p1225 0 32) (bp1226 : gB p1226 0 1999) (bp1229 : gB p1229 0 1999) (bp1230 : gB p1230 0 1) (bp1231 : gB p1231 0 1) (x1232 : p1224.toInt = 0) (x1233 : p1222.toInt ≤ p1224.toInt) : CtA (gV D I) l yJx4a65c_add_7a177 cJx4a65c_add_7a177 5 none 3 57 1 10 [.ref q1220, .int p1222, .ref q1221] (va_pl P1218 F1219) (pp_1234_ArrayList_add D I P1218 F1219 q1220 q1221 p1222 p1223 p1224 p1225 p1226 p1227 p1228 p1229 p1230 p1231) gNA := by
  refine CtA_ofF hl0 (by decide +kernel) (Nat.le_of_ble_eq_true rfl) ?_
  have bp1223 := gB_any p1223
  have bp1227 := gB_any p1227
  have bp1228 := gB_any p1228
  refine G_aload_n 0 dr_cJx4a65c_add_7a177_0 rfl ?_
  refine G_iload_n 1 dr_cJx4a65c_add_7a177_1 rfl ?_
  refine Gw_callV (As := [.int p1222]) (gV_ok D I) (cp_1242_ArrayList_rangeCheckForAdd l hl0 D I P1218 F1219 q1220 p1222 p1223 p1224 hmq1220 heq1220 bp1222 bp1224 (by omega)) dr_cJx4a65c_add_7a177_2 ⟨wr_10_207, wr_1_18, wr_10_210, by decide, rfl, (Nat.le_of_ble_eq_true rfl), (Nat.le_of_ble_eq_true rfl)⟩ wr_10_209 wr_p_97 hmq1220 heq1220 rfl (show 0 + 0 ≤ 1 by first | omega | decide) (show 0 + 0 ≤ 10 by first | omega | decide) (Nat.le_of_ble_eq_true rfl) (fun r1249 w1250 dc1246 ds1247 hp1248 => ?_) (fun _ _ _ _ _ z => z.elim)
  obtain ⟨rfl, rfl, hdc, hds⟩ := hp1248
  change G _ _ _ _ _ _ _ _ _ _ _
  refine G_widen (cs' := 0) (sl' := 0) (by omega) (by omega) ?_
  refine G_aload_n 0 dr_cJx4a65c_add_7a177_5 rfl ?_
  refine G_dup dr_cJx4a65c_add_7a177_6 rfl ?_
  refine Gp_getS 0 hmq1220 heq1220 dr_cJx4a65c_add_7a177_7 (gk_Jx4a65c D I) (Nat.le_of_ble_eq_true rfl) wr_7_20 wr_7_21 rfl ?_
  refine G_iconst 1 dr_cJx4a65c_add_7a177_10 (by decide +kernel) ?_
  refine G_iadd dr_cJx4a65c_add_7a177_11 (G_nam fun z1251 hz1251 => ?_)
  have bz1251 : gB z1251 (-2147483648) 2147483647 := gB_any z1251
  refine Gp_putS 0 hmq1220 heq1220 dr_cJx4a65c_add_7a177_12 (gk_Jx4a65c D I) (Nat.le_of_ble_eq_true rfl) wr_7_20 wr_7_21 rfl rfl rfl (Nat.le_of_ble_eq_true rfl) (fun F1252 e1253 n1254 => ?_)
  have he1255 : F1252 q1221 = .inr (20, [.int p1225, .int p1226, .int p1227, .int p1228, .int p1229, .int p1230, .int p1231]) := (n1254 q1221 (rn_oo heq1221 heq1220 (by decide))).trans heq1221
  have he1256 : F1252 q1220 = .inr (4, [.int z1251, .ref (D.2 1002 1), .int p1224]) := e1253
  have hfr1257 : rFr [q1220] P1218 F1219 F1252 := rFr_put (rFr_rf (W := []) (P := P1218) (F := F1219)) n1254
  refine G_aload_n 0 dr_cJx4a65c_add_7a177_15 rfl ?_
  refine Gp_get 2 hmq1220 he1256 dr_cJx4a65c_add_7a177_16 (gk_Jx4a65c D I) (Nat.le_of_ble_eq_true rfl) wr_7_18 rfl ?_
  refine G_dup dr_cJx4a65c_add_7a177_19 rfl ?_
  refine G_istore_n (L' := [(3, .int p1224), (0, .ref q1220), (1, .int p1222), (2, .ref q1221)]) dr_cJx4a65c_add_7a177_20 (Nat.le_of_ble_eq_true rfl) rfl ?_
  refine G_aload_n 1 dr_cJx4a65c_add_7a177_21 rfl ?_
  refine Gp_get 1 hmq1220 he1256 dr_cJx4a65c_add_7a177_22 (gk_Jx4a65c D I) (Nat.le_of_ble_eq_true rfl) wr_7_17 rfl ?_
  refine G_dup dr_cJx4a65c_add_7a177_25 rfl ?_
  refine G_astore (L' := [(4, .ref (D.2 1002 1)), (3, .int p1224), (0, .ref q1220), (1, .int p1222), (2, .ref q1221)]) dr_cJx4a65c_add_7a177_26 (Nat.le_of_ble_eq_true rfl) rfl ?_
  refine G_klen dr_cJx4a65c_add_7a177_28 gr_dt ?_
  refine G_icmp_ne 38 dr_cJx4a65c_add_7a177_29 (by decide +kernel) (fun hc => absurd (show False by have := gj_neq hc (show Int32.toInt 0 = 0 by decide); omega) not_false) (fun hc1258 => ?_)
  have r1260 : p1224.toInt = 0 := gj_eq hc1258 (show Int32.toInt 0 = 0 by decide)
  have bp1224' : gB p1224 0 0 := ⟨by omega, by omega⟩
  refine G_aload_n 2 dr_cJx4a65c_add_7a177_32 rfl ?_
  refine Gw_callV (As := []) (gV_ok D I) (cp_775_ArrayList_grow l hl0 D I P1218 F1252 q1220 z1251 p1224 hmq1220 he1256 (gB_w bp1224' (by decide) (by decide)) (by omega)) dr_cJx4a65c_add_7a177_33 ⟨wr_10_7, wr_1_18, wr_10_10, by decide, rfl, (Nat.le_of_ble_eq_true rfl), (Nat.le_of_ble_eq_true rfl)⟩ wr_10_9 wr_p_86 hmq1220 he1256 rfl (show 0 + 1 ≤ 1 by first | omega | decide) (show 0 + 10 ≤ 10 by first | omega | decide) (Nat.le_of_ble_eq_true rfl) (fun r1264 w1265 dc1261 ds1262 hp1263 => ?_) (fun _ _ _ _ _ z => z.elim)
  obtain ⟨P1269, F1270, q1266, n1267, rfl, rfl, hsb1271, hfr1272, he1273, he1274, hm1275, hq1276, hdc, hds, x1268⟩ := hp1263
  have hm1277 : q1220 ∈ P1269 := hsb1271 q1220 hmq1220
  have hm1278 : q1221 ∈ P1269 := hsb1271 q1221 hmq1221
  have hq1279 : q1266 ∉ P1218 := fun z => hq1276 ((rSub_rf (P := P1218)) q1266 z)
  have hsb1280 : rSub P1218 P1269 := rSub_tr (rSub_rf (P := P1218)) hsb1271
  have he1281 : F1270 q1221 = .inr (20, [.int p1225, .int p1226, .int p1227, .int p1228, .int p1229, .int p1230, .int p1231]) := (hfr1272 q1221 hmq1221 (nm_c (rn_oo he1255 he1256 (by decide)) nm_n)).trans he1255
  have hfr1282 : rFr [q1220] P1218 F1219 F1270 := rFr_call (rSub_rf (P := P1218)) hfr1257 hfr1272 (fun b hb hn => ⟨(nm_c (fun e => hn (e ▸ List.mem_cons_self)) nm_n), (nm_c (fun e => hn (e ▸ List.mem_cons_self)) nm_n)⟩)
  change G _ _ _ _ _ _ _ (.ref q1266 :: _) _ _ _
  refine G_widen (cs' := 1) (sl' := 10) (by omega) (by omega) ?_
  refine G_astore (L' := [(4, .ref q1266), (3, .int p1224), (0, .ref q1220), (1, .int p1222), (2, .ref q1221)]) dr_cJx4a65c_add_7a177_36 (Nat.le_of_ble_eq_true rfl) rfl ?_
  refine G_aload 0 dr_cJx4a65c_add_7a177_38 rfl ?_
  refine G_iload_n 3 dr_cJx4a65c_add_7a177_40 rfl ?_
  refine G_aload 0 dr_cJx4a65c_add_7a177_41 rfl ?_
  refine G_iload_n 3 dr_cJx4a65c_add_7a177_43 rfl ?_
  refine G_iconst 1 dr_cJx4a65c_add_7a177_44 (by decide +kernel) ?_
  refine G_iadd dr_cJx4a65c_add_7a177_45 (G_nam fun z1283 hz1283 => ?_)
  have ez1283 : z1283.toInt = p1222.toInt + 1 := by rw [gI_add hz1283 bp1222 (gBl (show Int32.toInt 1 = 1 by decide)) (by decide) (by decide), show Int32.toInt 1 = 1 from by decide]
  have bz1283 : gB z1283 1 16777217 := gB_add (gI_add hz1283 bp1222 (gBl (show Int32.toInt 1 = 1 by decide)) (by decide) (by decide)) bp1222 (gBl (show Int32.toInt 1 = 1 by decide)) (by decide) (by decide)
  refine G_iload_n 1 dr_cJx4a65c_add_7a177_46 rfl ?_
  refine G_iload_n 3 dr_cJx4a65c_add_7a177_47 rfl ?_
  refine G_isub dr_cJx4a65c_add_7a177_48 (G_nam fun z1284 hz1284 => ?_)
  have ez1284 : z1284.toInt = p1224.toInt - p1222.toInt := by rw [gI_sub hz1284 bp1224' bp1222 (by decide) (by decide)]
  have bz1284 : gB z1284 (-16777216) 0 := gB_sub (gI_sub hz1284 bp1224' bp1222 (by decide) (by decide)) bp1224' bp1222 (by decide) (by decide)
  refine Gp_copyq 4 hm1275 hm1275 he1274 he1274 dr_cJx4a65c_add_7a177_49 wr_10_224 wr_5_113 wr_5_112 wr_1_34 rfl (by omega) (by omega) (by omega) (by omega) (by omega) (fun j _ w hw => by cases hw) (Nat.le_of_ble_eq_true rfl) (Nat.le_of_ble_eq_true rfl) (fun F1285 e1286 n1287 => ?_)
  obtain ⟨f1288, hf1288⟩ : ∃ z, z = va_cpy (fun _ => none) (fun _ => none) p1222.toNatClampNeg z1283.toNatClampNeg z1284.toNatClampNeg := ⟨_, rfl⟩
  rw [← hf1288] at e1286
  have he1289 : F1285 q1221 = .inr (20, [.int p1225, .int p1226, .int p1227, .int p1228, .int p1229, .int p1230, .int p1231]) := (n1287 q1221 (fun h => hq1279 (h ▸ hmq1221))).trans he1281
  have he1290 : F1285 q1220 = .inr (4, [.int z1251, .ref q1266, .int p1224]) := (n1287 q1220 (fun h => hq1279 (h ▸ hmq1220))).trans he1273
  have he1291 : F1285 q1266 = .inl (I (.object "java/lang/Object"), n1267, .inr (.inr (.inr (.inr f1288)))) := e1286
  have hfr1292 : rFr [q1220] P1218 F1219 F1285 := rFr_newp hq1279 hfr1282 n1287
  refine G_aload 0 dr_cJx4a65c_add_7a177_52 rfl ?_
  refine G_iload_n 3 dr_cJx4a65c_add_7a177_54 rfl ?_
  refine G_aload_n 4 dr_cJx4a65c_add_7a177_55 rfl ?_
  refine Gp_aast 4 hm1275 he1291 dr_cJx4a65c_add_7a177_56 rfl ⟨hm1278, _, _, _, _, _, he1289, rfl, gr_cast 3 rfl⟩ (gB_inr (by omega) (by omega)) (fun F1293 e1294 n1295 => ?_)
  obtain ⟨f1296, hf1296⟩ : ∃ z, z = va_up f1288 p1222.toNatClampNeg (some q1221) := ⟨_, rfl⟩
  rw [← hf1296] at e1294
  have he1297 : F1293 q1221 = .inr (20, [.int p1225, .int p1226, .int p1227, .int p1228, .int p1229, .int p1230, .int p1231]) := (n1295 q1221 (fun h => hq1279 (h ▸ hmq1221))).trans he1289
  have he1298 : F1293 q1220 = .inr (4, [.int z1251, .ref q1266, .int p1224]) := (n1295 q1220 (fun h => hq1279 (h ▸ hmq1220))).trans he1290
  have he1299 : F1293 q1266 = .inl (I (.object "java/lang/Object"), n1267, .inr (.inr (.inr (.inr f1296)))) := e1294
  have hfr1300 : rFr [q1220] P1218 F1219 F1293 := rFr_newp hq1279 hfr1292 n1295
  refine G_aload_n 2 dr_cJx4a65c_add_7a177_57 rfl ?_
  refine G_iload_n 1 dr_cJx4a65c_add_7a177_58 rfl ?_
  refine G_iconst 1 dr_cJx4a65c_add_7a177_59 (by decide +kernel) ?_
  refine G_iadd dr_cJx4a65c_add_7a177_60 (G_nam fun z1301 hz1301 => ?_)
  have ez1301 : z1301.toInt = p1224.toInt + 1 := by rw [gI_add hz1301 bp1224' (gBl (show Int32.toInt 1 = 1 by decide)) (by decide) (by decide), show Int32.toInt 1 = 1 from by decide]
  have bz1301 : gB z1301 1 1 := gB_add (gI_add hz1301 bp1224' (gBl (show Int32.toInt 1 = 1 by decide)) (by decide) (by decide)) bp1224' (gBl (show Int32.toInt 1 = 1 by decide)) (by decide) (by decide)
  refine Gp_put 2 hm1277 he1298 dr_cJx4a65c_add_7a177_61 (gk_Jx4a65c D I) (Nat.le_of_ble_eq_true rfl) wr_7_18 rfl rfl rfl (Nat.le_of_ble_eq_true rfl) (fun F1302 e1303 n1304 => ?_)
  have he1305 : F1302 q1221 = .inr (20, [.int p1225, .int p1226, .int p1227, .int p1228, .int p1229, .int p1230, .int p1231]) := (n1304 q1221 (rn_oo he1297 he1298 (by decide))).trans he1297
  have he1306 : F1302 q1266 = .inl (I (.object "java/lang/Object"), n1267, .inr (.inr (.inr (.inr f1296)))) := (n1304 q1266 (fun h => hq1279 (h ▸ hmq1220))).trans he1299
  have he1307 : F1302 q1220 = .inr (4, [.int z1251, .ref q1266, .int z1301]) := e1303
  have hfr1308 : rFr [q1220] P1218 F1219 F1302 := rFr_put' List.mem_cons_self hfr1300 n1304
  exact G_vretA dr_cJx4a65c_add_7a177_64 rfl (Nat.le_of_ble_eq_true rfl) (Nat.le_of_ble_eq_true rfl) ⟨P1269, F1302, z1251, z1301, q1266, n1267, f1296, rfl, rfl, hsb1280, hfr1308, he1305, he1307, he1306, hm1275, hq1279, (Nat.le_of_ble_eq_true rfl), (Nat.le_of_ble_eq_true rfl), bz1301, (by omega), (rI_ins (f := fun _ => none) (m := 0) (fun _ _ => rfl) hf1288 hf1296 (by omega) (by omega) (by omega) (by omega)).2.1, (rX_none (rSrcX_up hf1296 (rSrc_cpy hf1288 rSrc_none rSrc_none))), (by omega)⟩
abbrev ky_1327_ArrayList_clear : gKey := (cJx4a65c_clear_da8c8, 4, "java/util/ArrayList", none, [], "clear", fun _ _ => True)
def pp_1327_ArrayList_clear (D : va_G) (I : FieldType → ClassId) (P1316 : List Nat) (F1317 : Nat → va_E) (q1318 : Nat) (q1319 : Nat) (p1320 : Int32) (p1321 : Int32) (f1322 : Nat → Option Nat) (n1323 : Nat) : Option Value → va_W → Nat → Nat → Prop := fun r w dc ds => ∃ (F1459 : Nat → va_E) (o1456 : Int32) (f1457 : Nat → Option Nat), r = none ∧ w = va_pl P1316 F1459 ∧ rFr [q1318, q1319] P1316 F1317 F1459 ∧ F1459 q1318 = .inr (4, [.int o1456, .ref q1319, .int 0]) ∧ F1459 q1319 = .inl (I (.object "java/lang/Object"), n1323, .inr (.inr (.inr (.inr f1457)))) ∧ dc ≤ 0 ∧ ds ≤ 0 ∧ rSrc f1457 f1322
set_option maxRecDepth 100000 in
set_option maxHeartbeats 4000000 in
theorem cp_1327_ArrayList_clear (l : Launch) (hl0 : l.stackTraces = false) (D : va_G) (I : FieldType → ClassId) (P1316 : List Nat) (F1317 : Nat → va_E) (q1318 : Nat) (q1319 : Nat) (p1320 : Int32) (p1321 : Int32) (f1322 : Nat → Option Nat) (n1323 : Nat) (hmq1318 : q1318 ∈ P1316) (hmq1319 : q1319 ∈ P1316) (heq1318 : F1317 q1318 = .inr (4, [.int p1320, .ref q1319, .int p1321])) (heq1319 : F1317 q1319 = .inl (I (.object "java/lang/Object"), n1323, .inr (.inr (.inr (.inr f1322))))) (bp1321 : gB p1321 0 16777216) (x1324 : p1321.toInt ≤ (n1323 : Int)) (x1325 : rEl P1316 F1317 f1322) (x1326 : ((n1323 : Int) ≤ 16777216)) : CtA (gV D I) l yJx4a65c_clear_da8c8 cJx4a65c_clear_da8c8 4 none 0 0 0 0 [.ref q1318] (va_pl P1316 F1317) (pp_1327_ArrayList_clear D I P1316 F1317 q1318 q1319 p1320 p1321 f1322 n1323) gNA := by
  refine CtA_ofF hl0 (by decide +kernel) (Nat.le_of_ble_eq_true rfl) ?_
  have bp1320 := gB_any p1320
  refine G_aload_n 0 dr_cJx4a65c_clear_da8c8_0 rfl ?_
  refine G_dup dr_cJx4a65c_clear_da8c8_1 rfl ?_
  refine Gp_getS 0 hmq1318 heq1318 dr_cJx4a65c_clear_da8c8_2 (gk_Jx4a65c D I) (Nat.le_of_ble_eq_true rfl) wr_7_20 wr_7_21 rfl ?_
  refine G_iconst 1 dr_cJx4a65c_clear_da8c8_5 (by decide +kernel) ?_
  refine G_iadd dr_cJx4a65c_clear_da8c8_6 (G_nam fun z1328 hz1328 => ?_)
  have bz1328 : gB z1328 (-2147483648) 2147483647 := gB_any z1328
  refine Gp_putS 0 hmq1318 heq1318 dr_cJx4a65c_clear_da8c8_7 (gk_Jx4a65c D I) (Nat.le_of_ble_eq_true rfl) wr_7_20 wr_7_21 rfl rfl rfl (Nat.le_of_ble_eq_true rfl) (fun F1329 e1330 n1331 => ?_)
  have he1332 : F1329 q1319 = .inl (I (.object "java/lang/Object"), n1323, .inr (.inr (.inr (.inr f1322)))) := (n1331 q1319 (rn_ao heq1319 heq1318)).trans heq1319
  have he1333 : F1329 q1318 = .inr (4, [.int z1328, .ref q1319, .int p1321]) := e1330
  have hfr1334 : rFr [q1318] P1316 F1317 F1329 := rFr_put (rFr_rf (W := []) (P := P1316) (F := F1317)) n1331
  refine G_aload_n 0 dr_cJx4a65c_clear_da8c8_10 rfl ?_
  refine Gp_get 1 hmq1318 he1333 dr_cJx4a65c_clear_da8c8_11 (gk_Jx4a65c D I) (Nat.le_of_ble_eq_true rfl) wr_7_17 rfl ?_
  refine G_astore_n (L' := [(1, .ref q1319), (0, .ref q1318)]) dr_cJx4a65c_clear_da8c8_14 (Nat.le_of_ble_eq_true rfl) rfl ?_
  refine G_aload_n 1 dr_cJx4a65c_clear_da8c8_15 rfl ?_
  refine Gp_get 2 hmq1318 he1333 dr_cJx4a65c_clear_da8c8_16 (gk_Jx4a65c D I) (Nat.le_of_ble_eq_true rfl) wr_7_18 rfl ?_
  refine G_istore_n (L' := [(2, .int p1321), (1, .ref q1319), (0, .ref q1318)]) dr_cJx4a65c_clear_da8c8_19 (Nat.le_of_ble_eq_true rfl) rfl ?_
  refine G_aload_n 2 dr_cJx4a65c_clear_da8c8_20 rfl ?_
  refine G_iconst 0 dr_cJx4a65c_clear_da8c8_21 (by decide +kernel) ?_
  refine G_dup_x1 dr_cJx4a65c_clear_da8c8_22 rfl rfl ?_
  refine Gp_put 2 hmq1318 he1333 dr_cJx4a65c_clear_da8c8_23 (gk_Jx4a65c D I) (Nat.le_of_ble_eq_true rfl) wr_7_18 rfl rfl rfl (Nat.le_of_ble_eq_true rfl) (fun F1335 e1336 n1337 => ?_)
  have he1338 : F1335 q1319 = .inl (I (.object "java/lang/Object"), n1323, .inr (.inr (.inr (.inr f1322)))) := (n1337 q1319 (rn_ao he1332 he1333)).trans he1332
  have he1339 : F1335 q1318 = .inr (4, [.int z1328, .ref q1319, .int 0]) := e1336
  have hfr1340 : rFr [q1318] P1316 F1317 F1335 := rFr_put' List.mem_cons_self hfr1334 n1337
  refine G_istore_n (L' := [(3, .int 0), (2, .int p1321), (1, .ref q1319), (0, .ref q1318)]) dr_cJx4a65c_clear_da8c8_26 (Nat.le_of_ble_eq_true rfl) rfl ?_
  have hlp27_1444 : ∀ (n27_1444 : Nat) (F1438 : Nat → va_E) (g1436 : Int32) (f1437 : Nat → Option Nat), gB g1436 0 16777216 → rFr [q1318, q1319] P1316 F1317 F1438 → F1438 q1318 = .inr (4, [.int z1328, .ref q1319, .int 0]) → F1438 q1319 = .inl (I (.object "java/lang/Object"), n1323, .inr (.inr (.inr (.inr f1437)))) → rSrc f1437 f1322 → p1321.toInt ≤ (n1323 : Int) → (n1323 : Int) ≤ 16777216 → ((16777217 : Int) - g1436.toInt).toNat < n27_1444 → G (gV D I) l (gRm 0 0 0 0) (gMA (gV D I) (pp_1327_ArrayList_clear D I P1316 F1317 q1318 q1319 p1320 p1321 f1322 n1323) gNA 0 0) ky_1327_ArrayList_clear 27 [(3, .int g1436), (2, .int p1321), (1, .ref q1319), (0, .ref q1318)] [] (va_pl P1316 F1438) 0 0 := by
    intro n27_1444
    induction n27_1444 with
    | zero => intro F1438 g1436 f1437 bg1436 hfr1441 he1439 he1440 x1442 x1443 x1444 hm27_1444; exact absurd hm27_1444 (Nat.not_lt_zero _)
    | succ n27_1444 ih27_1444 =>
      intro F1438 g1436 f1437 bg1436 hfr1441 he1439 he1440 x1442 x1443 x1444 hm27_1444
      refine G_iload_n 0 dr_cJx4a65c_clear_da8c8_27 rfl ?_
      refine G_iload_n 1 dr_cJx4a65c_clear_da8c8_28 rfl ?_
      refine G_icmp_ge 42 dr_cJx4a65c_clear_da8c8_29 (by decide +kernel) (fun hc1445 => ?_) (fun hc1445 => ?_)
      · have r1446 : p1321.toInt ≤ g1436.toInt := gC_le hc1445
        exact G_vretA dr_cJx4a65c_clear_da8c8_42 rfl (Nat.le_of_ble_eq_true rfl) (Nat.le_of_ble_eq_true rfl) ⟨F1438, z1328, f1437, rfl, rfl, hfr1441, he1439, he1440, (Nat.le_of_ble_eq_true rfl), (Nat.le_of_ble_eq_true rfl), x1442⟩
      · have r1447 : g1436.toInt < p1321.toInt := gC_nle hc1445
        have bg1436' : gB g1436 0 16777215 := ⟨by omega, by omega⟩
        have bp1321' : gB p1321 1 16777216 := ⟨by omega, by omega⟩
        refine G_aload_n 2 dr_cJx4a65c_clear_da8c8_32 rfl ?_
        refine G_iload_n 0 dr_cJx4a65c_clear_da8c8_33 rfl ?_
        refine G_null dr_cJx4a65c_clear_da8c8_34 ?_
        refine Gp_aastN 4 hmq1319 he1440 dr_cJx4a65c_clear_da8c8_35 rfl (gB_inr (by omega) (by omega)) (fun F1448 e1449 n1450 => ?_)
        obtain ⟨f1451, hf1451⟩ : ∃ z, z = va_up f1437 g1436.toNatClampNeg none := ⟨_, rfl⟩
        rw [← hf1451] at e1449
        have he1452 : F1448 q1318 = .inr (4, [.int z1328, .ref q1319, .int 0]) := (n1450 q1318 (rn_oa he1439 he1440)).trans he1439
        have he1453 : F1448 q1319 = .inl (I (.object "java/lang/Object"), n1323, .inr (.inr (.inr (.inr f1451)))) := e1449
        have hfr1454 : rFr [q1318, q1319] P1316 F1317 F1448 := rFr_put' (List.mem_cons_of_mem _ List.mem_cons_self) hfr1441 n1450
        obtain ⟨z1455, hz1455⟩ : ∃ z : Int32, z = g1436 + Int32.ofInt 1 := ⟨_, rfl⟩
        have ez1455 : z1455.toInt = g1436.toInt + 1 := gI_inc hz1455 (by decide) bg1436' (by decide) (by decide)
        have bz1455 : gB z1455 1 16777216 := ⟨by omega, by omega⟩
        refine G_iinc (L' := [(3, .int z1455), (2, .int p1321), (1, .ref q1319), (0, .ref q1318)]) z1455 0 dr_cJx4a65c_clear_da8c8_36 rfl hz1455.symm (Nat.le_of_ble_eq_true rfl) rfl ?_
        refine G_goto 27 dr_cJx4a65c_clear_da8c8_39 (by decide +kernel) ?_
        exact ih27_1444 F1448 z1455 f1451 (gB_w bz1455 (by decide) (by decide)) hfr1454 he1452 he1453 (rSrc_upN hf1451 x1442) (by have qa0 : Int32.toInt 0 = 0 := (by decide); omega) (by have qa0 : Int32.toInt 0 = 0 := (by decide); omega) (by have qa0 : Int32.toInt 0 = 0 := (by decide); omega)
  exact hlp27_1444 (((16777217 : Int) - 0).toNat + 1) F1335 0 f1322 (gB_w (gBl (show Int32.toInt 0 = 0 by decide)) (by decide) (by decide)) (rFr_v hfr1340 (fun b hn => (nm_c (fun e => hn (e ▸ List.mem_cons_self)) nm_n))) he1339 he1338 rSrc_rf (by have qa0 : Int32.toInt 0 = 0 := (by decide); omega) (by have qa0 : Int32.toInt 0 = 0 := (by decide); omega) (Nat.lt_succ_self _)
abbrev ky_1466_ArrayList_clear : gKey := (cJx4a65c_clear_da8c8, 4, "java/util/ArrayList", none, [], "clear", fun _ _ => True)
def pp_1466_ArrayList_clear (D : va_G) (I : FieldType → ClassId) (P1460 : List Nat) (F1461 : Nat → va_E) (q1462 : Nat) (p1463 : Int32) (p1464 : Int32) : Option Value → va_W → Nat → Nat → Prop := fun r w dc ds => ∃ (F1486 : Nat → va_E) (o1484 : Int32), r = none ∧ w = va_pl P1460 F1486 ∧ rFr [q1462] P1460 F1461 F1486 ∧ F1486 q1462 = .inr (4, [.int o1484, .ref (D.2 1002 1), .int 0]) ∧ dc ≤ 0 ∧ ds ≤ 0
set_option maxRecDepth 100000 in
set_option maxHeartbeats 4000000 in
theorem cp_1466_ArrayList_clear (l : Launch) (hl0 : l.stackTraces = false) (D : va_G) (I : FieldType → ClassId) (P1460 : List Nat) (F1461 : Nat → va_E) (q1462 : Nat) (p1463 : Int32) (p1464 : Int32) (hmq1462 : q1462 ∈ P1460) (heq1462 : F1461 q1462 = .inr (4, [.int p1463, .ref (D.2 1002 1), .int p1464])) (bp1464 : gB p1464 0 16777216) (x1465 : p1464.toInt = 0) : CtA (gV D I) l yJx4a65c_clear_da8c8 cJx4a65c_clear_da8c8 4 none 0 0 0 0 [.ref q1462] (va_pl P1460 F1461) (pp_1466_ArrayList_clear D I P1460 F1461 q1462 p1463 p1464) gNA := by
  refine CtA_ofF hl0 (by decide +kernel) (Nat.le_of_ble_eq_true rfl) ?_
  have bp1463 := gB_any p1463
  refine G_aload_n 0 dr_cJx4a65c_clear_da8c8_0 rfl ?_
  refine G_dup dr_cJx4a65c_clear_da8c8_1 rfl ?_
  refine Gp_getS 0 hmq1462 heq1462 dr_cJx4a65c_clear_da8c8_2 (gk_Jx4a65c D I) (Nat.le_of_ble_eq_true rfl) wr_7_20 wr_7_21 rfl ?_
  refine G_iconst 1 dr_cJx4a65c_clear_da8c8_5 (by decide +kernel) ?_
  refine G_iadd dr_cJx4a65c_clear_da8c8_6 (G_nam fun z1467 hz1467 => ?_)
  have bz1467 : gB z1467 (-2147483648) 2147483647 := gB_any z1467
  refine Gp_putS 0 hmq1462 heq1462 dr_cJx4a65c_clear_da8c8_7 (gk_Jx4a65c D I) (Nat.le_of_ble_eq_true rfl) wr_7_20 wr_7_21 rfl rfl rfl (Nat.le_of_ble_eq_true rfl) (fun F1468 e1469 n1470 => ?_)
  have he1471 : F1468 q1462 = .inr (4, [.int z1467, .ref (D.2 1002 1), .int p1464]) := e1469
  have hfr1472 : rFr [q1462] P1460 F1461 F1468 := rFr_put (rFr_rf (W := []) (P := P1460) (F := F1461)) n1470
  refine G_aload_n 0 dr_cJx4a65c_clear_da8c8_10 rfl ?_
  refine Gp_get 1 hmq1462 he1471 dr_cJx4a65c_clear_da8c8_11 (gk_Jx4a65c D I) (Nat.le_of_ble_eq_true rfl) wr_7_17 rfl ?_
  refine G_astore_n (L' := [(1, .ref (D.2 1002 1)), (0, .ref q1462)]) dr_cJx4a65c_clear_da8c8_14 (Nat.le_of_ble_eq_true rfl) rfl ?_
  refine G_aload_n 1 dr_cJx4a65c_clear_da8c8_15 rfl ?_
  refine Gp_get 2 hmq1462 he1471 dr_cJx4a65c_clear_da8c8_16 (gk_Jx4a65c D I) (Nat.le_of_ble_eq_true rfl) wr_7_18 rfl ?_
  refine G_istore_n (L' := [(2, .int p1464), (1, .ref (D.2 1002 1)), (0, .ref q1462)]) dr_cJx4a65c_clear_da8c8_19 (Nat.le_of_ble_eq_true rfl) rfl ?_
  refine G_aload_n 2 dr_cJx4a65c_clear_da8c8_20 rfl ?_
  refine G_iconst 0 dr_cJx4a65c_clear_da8c8_21 (by decide +kernel) ?_
  refine G_dup_x1 dr_cJx4a65c_clear_da8c8_22 rfl rfl ?_
  refine Gp_put 2 hmq1462 he1471 dr_cJx4a65c_clear_da8c8_23 (gk_Jx4a65c D I) (Nat.le_of_ble_eq_true rfl) wr_7_18 rfl rfl rfl (Nat.le_of_ble_eq_true rfl) (fun F1473 e1474 n1475 => ?_)
  have he1476 : F1473 q1462 = .inr (4, [.int z1467, .ref (D.2 1002 1), .int 0]) := e1474
  have hfr1477 : rFr [q1462] P1460 F1461 F1473 := rFr_put' List.mem_cons_self hfr1472 n1475
  refine G_istore_n (L' := [(3, .int 0), (2, .int p1464), (1, .ref (D.2 1002 1)), (0, .ref q1462)]) dr_cJx4a65c_clear_da8c8_26 (Nat.le_of_ble_eq_true rfl) rfl ?_
  have hlp27_1480 : ∀ (n27_1480 : Nat) , 0 < n27_1480 → G (gV D I) l (gRm 0 0 0 0) (gMA (gV D I) (pp_1466_ArrayList_clear D I P1460 F1461 q1462 p1463 p1464) gNA 0 0) ky_1466_ArrayList_clear 27 [(3, .int 0), (2, .int p1464), (1, .ref (D.2 1002 1)), (0, .ref q1462)] [] (va_pl P1460 F1473) 0 0 := by
    intro n27_1480
    induction n27_1480 with
    | zero => intro hm27_1480; exact absurd hm27_1480 (Nat.not_lt_zero _)
    | succ n27_1480 ih27_1480 =>
      intro hm27_1480
      refine G_iload_n 0 dr_cJx4a65c_clear_da8c8_27 rfl ?_
      refine G_iload_n 1 dr_cJx4a65c_clear_da8c8_28 rfl ?_
      refine G_icmp_ge 42 dr_cJx4a65c_clear_da8c8_29 (by decide +kernel) (fun hc1481 => ?_) (fun hc => absurd (show False by have := gj_nle hc (show Int32.toInt 0 = 0 by decide); omega) not_false)
      have r1483 : p1464.toInt ≤ 0 := gj_le hc1481 (show Int32.toInt 0 = 0 by decide)
      have bp1464' : gB p1464 0 0 := ⟨by omega, by omega⟩
      exact G_vretA dr_cJx4a65c_clear_da8c8_42 rfl (Nat.le_of_ble_eq_true rfl) (Nat.le_of_ble_eq_true rfl) ⟨F1473, z1467, rfl, rfl, hfr1477, he1476, (Nat.le_of_ble_eq_true rfl), (Nat.le_of_ble_eq_true rfl)⟩
  exact hlp27_1480 (0 + 1)  (Nat.lt_succ_self _)
abbrev ky_1521_ArrayList_fastRemove : gKey := (cJx4a65c_fastRemove_b59b0, 4, "java/util/ArrayList", none, [], "fastRemove", fun _ _ => True)
def pp_1521_ArrayList_fastRemove (D : va_G) (I : FieldType → ClassId) (P1508 : List Nat) (F1509 : Nat → va_E) (q1510 : Nat) (q1511 : Nat) (p1512 : Int32) (p1513 : Int32) (p1514 : Int32) (f1515 : Nat → Option Nat) (n1516 : Nat) : Option Value → va_W → Nat → Nat → Prop := fun r w dc ds => ∃ (F1572 : Nat → va_E) (o1568 : Int32) (o1569 : Int32) (f1570 : Nat → Option Nat), r = none ∧ w = va_pl P1508 F1572 ∧ rFr [q1511, q1510] P1508 F1509 F1572 ∧ F1572 q1510 = .inr (4, [.int o1568, .ref q1511, .int o1569]) ∧ F1572 q1511 = .inl (I (.object "java/lang/Object"), n1516, .inr (.inr (.inr (.inr f1570)))) ∧ dc ≤ 0 ∧ ds ≤ 0 ∧ gB o1569 (-1) 16777215 ∧ o1569.toInt = p1514.toInt - 1 ∧ ((∀ j : Nat, (j : Int) < p1512.toInt → f1570 j = f1515 j) ∧ ∀ j : Nat, p1512.toInt ≤ (j : Int) → (j : Int) < p1514.toInt - 1 → f1570 j = f1515 (j + 1)) ∧ rSrc f1570 f1515
set_option maxRecDepth 100000 in
set_option maxHeartbeats 4000000 in
theorem cp_1521_ArrayList_fastRemove (l : Launch) (hl0 : l.stackTraces = false) (D : va_G) (I : FieldType → ClassId) (P1508 : List Nat) (F1509 : Nat → va_E) (q1510 : Nat) (q1511 : Nat) (p1512 : Int32) (p1513 : Int32) (p1514 : Int32) (f1515 : Nat → Option Nat) (n1516 : Nat) (hmq1510 : q1510 ∈ P1508) (hmq1511 : q1511 ∈ P1508) (heq1510 : F1509 q1510 = .inr (4, [.int p1513, .ref q1511, .int p1514])) (heq1511 : F1509 q1511 = .inl (I (.object "java/lang/Object"), n1516, .inr (.inr (.inr (.inr f1515))))) (bp1512 : gB p1512 0 16777216) (bp1514 : gB p1514 0 16777216) (x1517 : p1512.toInt < p1514.toInt) (x1518 : p1514.toInt ≤ (n1516 : Int)) (x1519 : rEl P1508 F1509 f1515) (x1520 : ((n1516 : Int) ≤ 16777216)) : CtA (gV D I) l yJx4a65c_fastRemove_b59b0 cJx4a65c_fastRemove_b59b0 4 none 1 18 0 0 [.ref q1510, .ref q1511, .int p1512] (va_pl P1508 F1509) (pp_1521_ArrayList_fastRemove D I P1508 F1509 q1510 q1511 p1512 p1513 p1514 f1515 n1516) gNA := by
  refine CtA_ofF hl0 (by decide +kernel) (Nat.le_of_ble_eq_true rfl) ?_
  have bp1513 := gB_any p1513
  refine G_aload_n 0 dr_cJx4a65c_fastRemove_b59b0_0 rfl ?_
  refine G_dup dr_cJx4a65c_fastRemove_b59b0_1 rfl ?_
  refine Gp_getS 0 hmq1510 heq1510 dr_cJx4a65c_fastRemove_b59b0_2 (gk_Jx4a65c D I) (Nat.le_of_ble_eq_true rfl) wr_7_20 wr_7_21 rfl ?_
  refine G_iconst 1 dr_cJx4a65c_fastRemove_b59b0_5 (by decide +kernel) ?_
  refine G_iadd dr_cJx4a65c_fastRemove_b59b0_6 (G_nam fun z1522 hz1522 => ?_)
  have bz1522 : gB z1522 (-2147483648) 2147483647 := gB_any z1522
  refine Gp_putS 0 hmq1510 heq1510 dr_cJx4a65c_fastRemove_b59b0_7 (gk_Jx4a65c D I) (Nat.le_of_ble_eq_true rfl) wr_7_20 wr_7_21 rfl rfl rfl (Nat.le_of_ble_eq_true rfl) (fun F1523 e1524 n1525 => ?_)
  have he1526 : F1523 q1511 = .inl (I (.object "java/lang/Object"), n1516, .inr (.inr (.inr (.inr f1515)))) := (n1525 q1511 (rn_ao heq1511 heq1510)).trans heq1511
  have he1527 : F1523 q1510 = .inr (4, [.int z1522, .ref q1511, .int p1514]) := e1524
  have hfr1528 : rFr [q1510] P1508 F1509 F1523 := rFr_put (rFr_rf (W := []) (P := P1508) (F := F1509)) n1525
  refine G_aload_n 0 dr_cJx4a65c_fastRemove_b59b0_10 rfl ?_
  refine Gp_get 2 hmq1510 he1527 dr_cJx4a65c_fastRemove_b59b0_11 (gk_Jx4a65c D I) (Nat.le_of_ble_eq_true rfl) wr_7_18 rfl ?_
  refine G_iconst 1 dr_cJx4a65c_fastRemove_b59b0_14 (by decide +kernel) ?_
  refine G_isub dr_cJx4a65c_fastRemove_b59b0_15 (G_nam fun z1529 hz1529 => ?_)
  have ez1529 : z1529.toInt = p1514.toInt - 1 := by rw [gI_sub hz1529 bp1514 (gBl (show Int32.toInt 1 = 1 by decide)) (by decide) (by decide), show Int32.toInt 1 = 1 from by decide]
  have bz1529 : gB z1529 (-1) 16777215 := gB_sub (gI_sub hz1529 bp1514 (gBl (show Int32.toInt 1 = 1 by decide)) (by decide) (by decide)) bp1514 (gBl (show Int32.toInt 1 = 1 by decide)) (by decide) (by decide)
  refine G_dup dr_cJx4a65c_fastRemove_b59b0_16 rfl ?_
  refine G_istore_n (L' := [(3, .int z1529), (0, .ref q1510), (1, .ref q1511), (2, .int p1512)]) dr_cJx4a65c_fastRemove_b59b0_17 (Nat.le_of_ble_eq_true rfl) rfl ?_
  refine G_iload_n 3 dr_cJx4a65c_fastRemove_b59b0_18 rfl ?_
  refine G_icmp_le 34 dr_cJx4a65c_fastRemove_b59b0_19 (by decide +kernel) (fun hc1530 => ?_) (fun hc1530 => ?_)
  · have r1531 : z1529.toInt ≤ p1512.toInt := gC_le hc1530
    refine G_aload_n 2 dr_cJx4a65c_fastRemove_b59b0_34 rfl ?_
    refine G_aload_n 1 dr_cJx4a65c_fastRemove_b59b0_35 rfl ?_
    refine G_iload_n 0 dr_cJx4a65c_fastRemove_b59b0_36 rfl ?_
    refine G_dup_x1 dr_cJx4a65c_fastRemove_b59b0_37 rfl rfl ?_
    refine Gp_put 2 hmq1510 he1527 dr_cJx4a65c_fastRemove_b59b0_38 (gk_Jx4a65c D I) (Nat.le_of_ble_eq_true rfl) wr_7_18 rfl rfl rfl (Nat.le_of_ble_eq_true rfl) (fun F1532 e1533 n1534 => ?_)
    have he1535 : F1532 q1511 = .inl (I (.object "java/lang/Object"), n1516, .inr (.inr (.inr (.inr f1515)))) := (n1534 q1511 (rn_ao he1526 he1527)).trans he1526
    have he1536 : F1532 q1510 = .inr (4, [.int z1522, .ref q1511, .int z1529]) := e1533
    have hfr1537 : rFr [q1510] P1508 F1509 F1532 := rFr_put' List.mem_cons_self hfr1528 n1534
    refine G_null dr_cJx4a65c_fastRemove_b59b0_41 ?_
    refine Gp_aastN 4 hmq1511 he1535 dr_cJx4a65c_fastRemove_b59b0_42 rfl (gB_inr (by omega) (by omega)) (fun F1538 e1539 n1540 => ?_)
    obtain ⟨f1541, hf1541⟩ : ∃ z, z = va_up f1515 z1529.toNatClampNeg none := ⟨_, rfl⟩
    rw [← hf1541] at e1539
    have he1542 : F1538 q1510 = .inr (4, [.int z1522, .ref q1511, .int z1529]) := (n1540 q1510 (rn_oa he1536 he1535)).trans he1536
    have he1543 : F1538 q1511 = .inl (I (.object "java/lang/Object"), n1516, .inr (.inr (.inr (.inr f1541)))) := e1539
    have hfr1544 : rFr [q1511, q1510] P1508 F1509 F1538 := rFr_put hfr1537 n1540
    exact G_vretA dr_cJx4a65c_fastRemove_b59b0_43 rfl (Nat.le_of_ble_eq_true rfl) (Nat.le_of_ble_eq_true rfl) ⟨F1538, z1522, z1529, f1541, rfl, rfl, hfr1544, he1542, he1543, (Nat.le_of_ble_eq_true rfl), (Nat.le_of_ble_eq_true rfl), bz1529, (by omega), (rI_del0 (m := _) hf1541 (by omega) (by omega) (by omega)), (rSrc_upN hf1541 rSrc_rf)⟩
  · have r1545 : p1512.toInt < z1529.toInt := gC_nle hc1530
    have bp1512' : gB p1512 0 16777214 := ⟨by omega, by omega⟩
    have bz1529' : gB z1529 1 16777215 := ⟨by omega, by omega⟩
    refine G_aload_n 2 dr_cJx4a65c_fastRemove_b59b0_22 rfl ?_
    refine G_iload_n 3 dr_cJx4a65c_fastRemove_b59b0_23 rfl ?_
    refine G_iconst 1 dr_cJx4a65c_fastRemove_b59b0_24 (by decide +kernel) ?_
    refine G_iadd dr_cJx4a65c_fastRemove_b59b0_25 (G_nam fun z1546 hz1546 => ?_)
    have ez1546 : z1546.toInt = p1512.toInt + 1 := by rw [gI_add hz1546 bp1512' (gBl (show Int32.toInt 1 = 1 by decide)) (by decide) (by decide), show Int32.toInt 1 = 1 from by decide]
    have bz1546 : gB z1546 1 16777215 := gB_add (gI_add hz1546 bp1512' (gBl (show Int32.toInt 1 = 1 by decide)) (by decide) (by decide)) bp1512' (gBl (show Int32.toInt 1 = 1 by decide)) (by decide) (by decide)
    refine G_aload_n 2 dr_cJx4a65c_fastRemove_b59b0_26 rfl ?_
    refine G_iload_n 3 dr_cJx4a65c_fastRemove_b59b0_27 rfl ?_
    refine G_iload_n 0 dr_cJx4a65c_fastRemove_b59b0_28 rfl ?_
    refine G_iload_n 3 dr_cJx4a65c_fastRemove_b59b0_29 rfl ?_
    refine G_isub dr_cJx4a65c_fastRemove_b59b0_30 (G_nam fun z1547 hz1547 => ?_)
    have ez1547 : z1547.toInt = z1529.toInt - p1512.toInt := by rw [gI_sub hz1547 bz1529' bp1512' (by decide) (by decide)]
    have bz1547 : gB z1547 (-16777213) 16777215 := gB_sub (gI_sub hz1547 bz1529' bp1512' (by decide) (by decide)) bz1529' bp1512' (by decide) (by decide)
    refine Gp_copyq 4 hmq1511 hmq1511 he1526 he1526 dr_cJx4a65c_fastRemove_b59b0_31 wr_10_224 wr_5_113 wr_5_112 wr_1_34 rfl (by omega) (by omega) (by omega) (by omega) (by omega) (fun j _ w hw => rEl_ob (rEl_frG (rEl_src x1519 rSrc_rf) (rSub_rf (P := P1508)) hfr1528 (rNg_c (rNg_o heq1510 (by decide) (by decide)) rNg_n)) hw) (Nat.le_of_ble_eq_true rfl) (Nat.le_of_ble_eq_true rfl) (fun F1548 e1549 n1550 => ?_)
    obtain ⟨f1551, hf1551⟩ : ∃ z, z = va_cpy f1515 f1515 z1546.toNatClampNeg p1512.toNatClampNeg z1547.toNatClampNeg := ⟨_, rfl⟩
    rw [← hf1551] at e1549
    have he1552 : F1548 q1510 = .inr (4, [.int z1522, .ref q1511, .int p1514]) := (n1550 q1510 (rn_oa he1527 he1526)).trans he1527
    have he1553 : F1548 q1511 = .inl (I (.object "java/lang/Object"), n1516, .inr (.inr (.inr (.inr f1551)))) := e1549
    have hfr1554 : rFr [q1511, q1510] P1508 F1509 F1548 := rFr_put hfr1528 n1550
    refine G_aload_n 2 dr_cJx4a65c_fastRemove_b59b0_34 rfl ?_
    refine G_aload_n 1 dr_cJx4a65c_fastRemove_b59b0_35 rfl ?_
    refine G_iload_n 0 dr_cJx4a65c_fastRemove_b59b0_36 rfl ?_
    refine G_dup_x1 dr_cJx4a65c_fastRemove_b59b0_37 rfl rfl ?_
    refine Gp_put 2 hmq1510 he1552 dr_cJx4a65c_fastRemove_b59b0_38 (gk_Jx4a65c D I) (Nat.le_of_ble_eq_true rfl) wr_7_18 rfl rfl rfl (Nat.le_of_ble_eq_true rfl) (fun F1555 e1556 n1557 => ?_)
    have he1558 : F1555 q1511 = .inl (I (.object "java/lang/Object"), n1516, .inr (.inr (.inr (.inr f1551)))) := (n1557 q1511 (rn_ao he1553 he1552)).trans he1553
    have he1559 : F1555 q1510 = .inr (4, [.int z1522, .ref q1511, .int z1529]) := e1556
    have hfr1560 : rFr [q1511, q1510] P1508 F1509 F1555 := rFr_put' (List.mem_cons_of_mem _ List.mem_cons_self) hfr1554 n1557
    refine G_null dr_cJx4a65c_fastRemove_b59b0_41 ?_
    refine Gp_aastN 4 hmq1511 he1558 dr_cJx4a65c_fastRemove_b59b0_42 rfl (gB_inr (by omega) (by omega)) (fun F1561 e1562 n1563 => ?_)
    obtain ⟨f1564, hf1564⟩ : ∃ z, z = va_up f1551 z1529.toNatClampNeg none := ⟨_, rfl⟩
    rw [← hf1564] at e1562
    have he1565 : F1561 q1510 = .inr (4, [.int z1522, .ref q1511, .int z1529]) := (n1563 q1510 (rn_oa he1559 he1558)).trans he1559
    have he1566 : F1561 q1511 = .inl (I (.object "java/lang/Object"), n1516, .inr (.inr (.inr (.inr f1564)))) := e1562
    have hfr1567 : rFr [q1511, q1510] P1508 F1509 F1561 := rFr_put' List.mem_cons_self hfr1560 n1563
    exact G_vretA dr_cJx4a65c_fastRemove_b59b0_43 rfl (Nat.le_of_ble_eq_true rfl) (Nat.le_of_ble_eq_true rfl) ⟨F1561, z1522, z1529, f1564, rfl, rfl, hfr1567, he1565, he1566, (Nat.le_of_ble_eq_true rfl), (Nat.le_of_ble_eq_true rfl), (gB_w bz1529' (by decide) (by decide)), (by omega), (rI_del (m := _) hf1551 hf1564 (by omega) (by omega) (by omega) (by omega) (by omega)), (rSrc_upN hf1564 (rSrc_cpy hf1551 rSrc_rf rSrc_rf))⟩
abbrev ky_1502_ArrayList_remove : gKey := (cJx4a65c_remove_915e3, 4, "java/util/ArrayList", (some (FieldType.object "java/lang/Object")), [], "remove", fun _ _ => True)
def pp_1502_ArrayList_remove (D : va_G) (I : FieldType → ClassId) (P1487 : List Nat) (F1488 : Nat → va_E) (q1489 : Nat) (q1490 : Nat) (p1491 : Int32) (p1492 : Int32) (p1493 : Int32) (f1494 : Nat → Option Nat) (n1495 : Nat) (x1496 : Nat) : Option Value → va_W → Nat → Nat → Prop := fun r w dc ds => ∃ (F1594 : Nat → va_E) (o1590 : Int32) (o1591 : Int32) (f1592 : Nat → Option Nat), r = some (.ref x1496) ∧ w = va_pl P1487 F1594 ∧ rFr [q1490, q1489] P1487 F1488 F1594 ∧ F1594 q1489 = .inr (4, [.int o1590, .ref q1490, .int o1591]) ∧ F1594 q1490 = .inl (I (.object "java/lang/Object"), n1495, .inr (.inr (.inr (.inr f1592)))) ∧ dc ≤ 0 ∧ ds ≤ 0 ∧ gB o1591 (-1) 16777215 ∧ o1591.toInt = p1493.toInt - 1 ∧ ((∀ j : Nat, (j : Int) < p1491.toInt → f1592 j = f1494 j) ∧ ∀ j : Nat, p1491.toInt ≤ (j : Int) → (j : Int) < p1493.toInt - 1 → f1592 j = f1494 (j + 1)) ∧ rSrc f1592 f1494
set_option maxRecDepth 100000 in
set_option maxHeartbeats 4000000 in
theorem cp_1502_ArrayList_remove (l : Launch) (hl0 : l.stackTraces = false) (D : va_G) (I : FieldType → ClassId) (P1487 : List Nat) (F1488 : Nat → va_E) (q1489 : Nat) (q1490 : Nat) (p1491 : Int32) (p1492 : Int32) (p1493 : Int32) (f1494 : Nat → Option Nat) (n1495 : Nat) (x1496 : Nat) (hmq1489 : q1489 ∈ P1487) (hmq1490 : q1490 ∈ P1487) (heq1489 : F1488 q1489 = .inr (4, [.int p1492, .ref q1490, .int p1493])) (heq1490 : F1488 q1490 = .inl (I (.object "java/lang/Object"), n1495, .inr (.inr (.inr (.inr f1494))))) (bp1491 : gB p1491 0 16777216) (bp1493 : gB p1493 0 16777216) (x1497 : p1491.toInt < p1493.toInt) (x1498 : p1493.toInt ≤ (n1495 : Int)) (x1499 : rEl P1487 F1488 f1494) (x1500 : f1494 p1491.toNatClampNeg = some x1496) (x1501 : ((n1495 : Int) ≤ 16777216)) : CtA (gV D I) l yJx4a65c_remove_915e3 cJx4a65c_remove_915e3 4 (some (FieldType.object "java/lang/Object")) 2 43 0 0 [.ref q1489, .int p1491] (va_pl P1487 F1488) (pp_1502_ArrayList_remove D I P1487 F1488 q1489 q1490 p1491 p1492 p1493 f1494 n1495 x1496) gNA := by
  refine CtA_ofF hl0 (by decide +kernel) (Nat.le_of_ble_eq_true rfl) ?_
  have bp1492 := gB_any p1492
  refine G_iload_n 1 dr_cJx4a65c_remove_915e3_0 rfl ?_
  refine G_aload_n 0 dr_cJx4a65c_remove_915e3_1 rfl ?_
  refine Gp_get 2 hmq1489 heq1489 dr_cJx4a65c_remove_915e3_2 (gk_Jx4a65c D I) (Nat.le_of_ble_eq_true rfl) wr_7_18 rfl ?_
  refine Gw_callS (As := [.int p1491, .int p1493]) (gV_ok D I) (cp_28_Objects_checkIndex l hl0 D I P1487 F1488 p1491 p1493 bp1491 bp1493 (by omega)) dr_cJx4a65c_remove_915e3_5 ⟨wr_10_62, wr_1_40, wr_10_64, by decide, rfl, (Nat.le_of_ble_eq_true rfl), (Nat.le_of_ble_eq_true rfl)⟩ wr_10_63 (show 0 + 0 ≤ 0 by first | omega | decide) (show 0 + 0 ≤ 0 by first | omega | decide) (Nat.le_of_ble_eq_true rfl) (fun r1506 w1507 dc1503 ds1504 hp1505 => ?_) (fun _ _ _ _ _ z => z.elim)
  obtain ⟨rfl, rfl, hdc, hds⟩ := hp1505
  change G _ _ _ _ _ _ _ (.int p1491 :: _) _ _ _
  refine G_widen (cs' := 0) (sl' := 0) (by omega) (by omega) ?_
  refine G_pop dr_cJx4a65c_remove_915e3_8 rfl ?_
  refine G_aload_n 0 dr_cJx4a65c_remove_915e3_9 rfl ?_
  refine Gp_get 1 hmq1489 heq1489 dr_cJx4a65c_remove_915e3_10 (gk_Jx4a65c D I) (Nat.le_of_ble_eq_true rfl) wr_7_17 rfl ?_
  refine G_astore_n (L' := [(2, .ref q1490), (0, .ref q1489), (1, .int p1491)]) dr_cJx4a65c_remove_915e3_13 (Nat.le_of_ble_eq_true rfl) rfl ?_
  refine G_aload_n 0 dr_cJx4a65c_remove_915e3_14 rfl ?_
  refine G_iload_n 2 dr_cJx4a65c_remove_915e3_15 rfl ?_
  refine Gp_aald 4 hmq1490 heq1490 dr_cJx4a65c_remove_915e3_16 rfl rfl (gB_inr (by omega) (by omega)) ?_
  rw [x1500]
  change G _ _ _ _ _ _ _ (.ref x1496 :: _) _ _ _
  refine G_astore_n (L' := [(3, .ref x1496), (2, .ref q1490), (0, .ref q1489), (1, .int p1491)]) dr_cJx4a65c_remove_915e3_17 (Nat.le_of_ble_eq_true rfl) rfl ?_
  refine G_aload_n 2 dr_cJx4a65c_remove_915e3_18 rfl ?_
  refine G_aload_n 1 dr_cJx4a65c_remove_915e3_19 rfl ?_
  refine G_iload_n 3 dr_cJx4a65c_remove_915e3_20 rfl ?_
  refine Gw_callV (As := [.ref q1490, .int p1491]) (gV_ok D I) (cp_1521_ArrayList_fastRemove l hl0 D I P1487 F1488 q1489 q1490 p1491 p1492 p1493 f1494 n1495 hmq1489 hmq1490 heq1489 heq1490 bp1491 bp1493 (by omega) (by omega) (rEl_frG (rEl_src x1499 rSrc_rf) (rSub_rf (P := P1487)) (rFr_rf (W := []) (P := P1487) (F := F1488)) rNg_n) (by omega)) dr_cJx4a65c_remove_915e3_21 ⟨wr_11_22, wr_1_18, wr_11_25, by decide, rfl, (Nat.le_of_ble_eq_true rfl), (Nat.le_of_ble_eq_true rfl)⟩ wr_11_24 wr_p_103 hmq1489 heq1489 rfl (show 0 + 0 ≤ 0 by first | omega | decide) (show 0 + 0 ≤ 0 by first | omega | decide) (Nat.le_of_ble_eq_true rfl) (fun r1576 w1577 dc1573 ds1574 hp1575 => ?_) (fun _ _ _ _ _ z => z.elim)
  obtain ⟨F1584, o1578, o1579, f1580, rfl, rfl, hfr1586, he1587, he1588, hdc, hds, bo1579, x1581, x1582, x1583⟩ := hp1575
  have hfr1589 : rFr [q1490, q1489] P1487 F1488 F1584 := rFr_call (rSub_rf (P := P1487)) (rFr_rf (W := []) (P := P1487) (F := F1488)) hfr1586 (fun b hb hn => ⟨nm_n, (nm_c (fun e => hn (e ▸ List.mem_cons_self)) (nm_c (fun e => hn (e ▸ (List.mem_cons_of_mem _ List.mem_cons_self))) nm_n))⟩)
  have bo1578 := gB_any o1578
  change G _ _ _ _ _ _ _ _ _ _ _
  refine G_widen (cs' := 0) (sl' := 0) (by omega) (by omega) ?_
  refine G_aload_n 0 dr_cJx4a65c_remove_915e3_24 rfl ?_
  exact G_aretA (FieldType.object "java/lang/Object") dr_cJx4a65c_remove_915e3_25 rfl (by first | exact Or.inl ⟨_, rfl⟩ | exact Or.inr ⟨_, rfl⟩) (Or.inr ⟨_, rfl⟩) (Nat.le_of_ble_eq_true rfl) (Nat.le_of_ble_eq_true rfl) ⟨F1584, o1578, o1579, f1580, rfl, rfl, hfr1589, he1587, he1588, (Nat.le_of_ble_eq_true rfl), (Nat.le_of_ble_eq_true rfl), bo1579, (by omega), (by assumption), (rSrc_tr x1583 rSrc_rf)⟩
abbrev ky_1612_AbstractCollection_init : gKey := (cJxa1e45_init_da8c8, 1, "java/util/AbstractCollection", none, [], "<init>", fun _ _ => True)
def pp_1612_AbstractCollection_init (D : va_G) (I : FieldType → ClassId) (P1607 : List Nat) (F1608 : Nat → va_E) (q1609 : Nat) (p1610 : Int32) (p1611 : Int32) : Option Value → va_W → Nat → Nat → Prop := fun r w dc ds => r = none ∧ w = va_pl P1607 F1608 ∧ dc ≤ 0 ∧ ds ≤ 0
set_option maxRecDepth 100000 in
set_option maxHeartbeats 4000000 in
theorem cp_1612_AbstractCollection_init (l : Launch) (hl0 : l.stackTraces = false) (D : va_G) (I : FieldType → ClassId) (P1607 : List Nat) (F1608 : Nat → va_E) (q1609 : Nat) (p1610 : Int32) (p1611 : Int32) (hmq1609 : q1609 ∈ P1607) (heq1609 : F1608 q1609 = .inr (4, [.int p1610, .null, .int p1611])) : CtA (gV D I) l yJxa1e45_init_da8c8 cJxa1e45_init_da8c8 1 none 1 12 0 0 [.ref q1609] (va_pl P1607 F1608) (pp_1612_AbstractCollection_init D I P1607 F1608 q1609 p1610 p1611) gNA := by
  refine CtA_ofF hl0 (by decide +kernel) (Nat.le_of_ble_eq_true rfl) ?_
  have bp1610 := gB_any p1610
  have bp1611 := gB_any p1611
  refine G_aload_n 0 dr_cJxa1e45_init_da8c8_0 rfl ?_
  refine G_obj dr_cJxa1e45_init_da8c8_1 wr_7_14 wr_1_51 wr_1_52 (Nat.le_of_ble_eq_true rfl) (Nat.le_of_ble_eq_true rfl) ?_
  exact G_vretA dr_cJxa1e45_init_da8c8_4 rfl (Nat.le_of_ble_eq_true rfl) (Nat.le_of_ble_eq_true rfl) ⟨rfl, rfl, (Nat.le_of_ble_eq_true rfl), (Nat.le_of_ble_eq_true rfl)⟩
abbrev ky_1606_AbstractList_init : gKey := (cJxc12de_init_da8c8, 1, "java/util/AbstractList", none, [], "<init>", fun _ _ => True)
def pp_1606_AbstractList_init (D : va_G) (I : FieldType → ClassId) (P1601 : List Nat) (F1602 : Nat → va_E) (q1603 : Nat) (p1604 : Int32) (p1605 : Int32) : Option Value → va_W → Nat → Nat → Prop := fun r w dc ds => ∃ (F1624 : Nat → va_E), r = none ∧ w = va_pl P1601 F1624 ∧ rFr [q1603] P1601 F1602 F1624 ∧ F1624 q1603 = .inr (4, [.int 0, .null, .int p1605]) ∧ dc ≤ 0 ∧ ds ≤ 0
set_option maxRecDepth 100000 in
set_option maxHeartbeats 4000000 in
theorem cp_1606_AbstractList_init (l : Launch) (hl0 : l.stackTraces = false) (D : va_G) (I : FieldType → ClassId) (P1601 : List Nat) (F1602 : Nat → va_E) (q1603 : Nat) (p1604 : Int32) (p1605 : Int32) (hmq1603 : q1603 ∈ P1601) (heq1603 : F1602 q1603 = .inr (4, [.int p1604, .null, .int p1605])) : CtA (gV D I) l yJxc12de_init_da8c8 cJxc12de_init_da8c8 1 none 2 32 0 0 [.ref q1603] (va_pl P1601 F1602) (pp_1606_AbstractList_init D I P1601 F1602 q1603 p1604 p1605) gNA := by
  refine CtA_ofF hl0 (by decide +kernel) (Nat.le_of_ble_eq_true rfl) ?_
  have bp1604 := gB_any p1604
  have bp1605 := gB_any p1605
  refine G_aload_n 0 dr_cJxc12de_init_da8c8_0 rfl ?_
  refine Gw_callI (As := []) (gV_ok D I) (cp_1612_AbstractCollection_init l hl0 D I P1601 F1602 q1603 p1604 p1605 hmq1603 heq1603) dr_cJxc12de_init_da8c8_1 ⟨wr_7_11, wr_1_16, wr_7_13, by decide, rfl, (Nat.le_of_ble_eq_true rfl), (Nat.le_of_ble_eq_true rfl)⟩ wr_7_12 rfl (show 0 + 0 ≤ 0 by first | omega | decide) (show 0 + 0 ≤ 0 by first | omega | decide) (Nat.le_of_ble_eq_true rfl) (fun r1616 w1617 dc1613 ds1614 hp1615 => ?_)
  obtain ⟨rfl, rfl, hdc, hds⟩ := hp1615
  change G _ _ _ _ _ _ _ _ _ _ _
  refine G_widen (cs' := 0) (sl' := 0) (by omega) (by omega) ?_
  refine G_aload_n 0 dr_cJxc12de_init_da8c8_4 rfl ?_
  refine G_iconst 0 dr_cJxc12de_init_da8c8_5 (by decide +kernel) ?_
  refine Gp_put 0 hmq1603 heq1603 dr_cJxc12de_init_da8c8_6 (gk_Jx4a65c D I) (Nat.le_of_ble_eq_true rfl) wr_7_19 rfl rfl rfl (Nat.le_of_ble_eq_true rfl) (fun F1618 e1619 n1620 => ?_)
  have he1621 : F1618 q1603 = .inr (4, [.int 0, .null, .int p1605]) := e1619
  have hfr1622 : rFr [q1603] P1601 F1602 F1618 := rFr_put (rFr_rf (W := []) (P := P1601) (F := F1602)) n1620
  exact G_vretA dr_cJxc12de_init_da8c8_9 rfl (Nat.le_of_ble_eq_true rfl) (Nat.le_of_ble_eq_true rfl) ⟨F1618, rfl, rfl, hfr1622, he1621, (Nat.le_of_ble_eq_true rfl), (Nat.le_of_ble_eq_true rfl)⟩
