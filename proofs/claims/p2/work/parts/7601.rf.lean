theorem dr_cJx4a65c_size_8abf5_0 : decode cJx4a65c_size_8abf5 0 = .ok (.aload_n 0, 1) := by decide +kernel
theorem dr_cJx4a65c_size_8abf5_1 : decode cJx4a65c_size_8abf5 1 = .ok (.getfield 48, 3) := by decide +kernel
theorem wr_7_18 : (Jvm.Cond.fieldLink "java/util/ArrayList" (48 : Nat) "java/util/ArrayList" "size" "I") ∈ gw := gw_7 18 rfl rfl
theorem dr_cJx4a65c_size_8abf5_4 : decode cJx4a65c_size_8abf5 4 = .ok (.ireturn, 1) := by decide +kernel
theorem dr_cJ3_checkIndex_8e157_0 : decode cJ3_checkIndex_8e157 0 = .ok (.iload_n 0, 1) := by decide +kernel
theorem dr_cJ3_checkIndex_8e157_1 : decode cJ3_checkIndex_8e157 1 = .ok (.ifCond .lt 8, 3) := by decide +kernel
theorem dr_cJ3_checkIndex_8e157_4 : decode cJ3_checkIndex_8e157 4 = .ok (.iload_n 0, 1) := by decide +kernel
theorem dr_cJ3_checkIndex_8e157_5 : decode cJ3_checkIndex_8e157 5 = .ok (.iload_n 1, 1) := by decide +kernel
theorem dr_cJ3_checkIndex_8e157_6 : decode cJ3_checkIndex_8e157 6 = .ok (.if_icmp .lt 10, 3) := by decide +kernel
theorem dr_cJ3_checkIndex_8e157_16 : decode cJ3_checkIndex_8e157 16 = .ok (.iload_n 0, 1) := by decide +kernel
theorem dr_cJ3_checkIndex_8e157_17 : decode cJ3_checkIndex_8e157 17 = .ok (.ireturn, 1) := by decide +kernel
theorem dr_cJ15_checkIndex_7cf53_0 : decode cJ15_checkIndex_7cf53 0 = .ok (.iload_n 0, 1) := by decide +kernel
theorem dr_cJ15_checkIndex_7cf53_1 : decode cJ15_checkIndex_7cf53 1 = .ok (.iload_n 1, 1) := by decide +kernel
theorem dr_cJ15_checkIndex_7cf53_2 : decode cJ15_checkIndex_7cf53 2 = .ok (.aconst_null, 1) := by decide +kernel
theorem dr_cJ15_checkIndex_7cf53_3 : decode cJ15_checkIndex_7cf53 3 = .ok (.invokestatic 105, 3) := by decide +kernel
theorem wr_10_69 : (Jvm.Cond.methodLink "java/util/Objects" (105 : Nat) ({ cls := "jdk/internal/util/Preconditions", name := "checkIndex", desc := "(IILjava/util/function/BiFunction;)I" } : Jvm.MethodName)) ∈ gw := gw_10 69 rfl rfl
theorem wr_1_29 : (Jvm.Cond.initialized "jdk/internal/util/Preconditions") ∈ gw := gw_1 29 rfl rfl
theorem wr_3_85 : (Jvm.Cond.code ({ cls := "jdk/internal/util/Preconditions", name := "checkIndex", desc := "(IILjava/util/function/BiFunction;)I" } : Jvm.MethodName) prog_52_method_11_code (3 : Nat) (Option.some Jvm.ClassFile.FieldType.int)) ∈ gw := gw_3 85 rfl rfl
theorem wr_3_84 : (Jvm.Cond.static ({ cls := "jdk/internal/util/Preconditions", name := "checkIndex", desc := "(IILjava/util/function/BiFunction;)I" } : Jvm.MethodName)) ∈ gw := gw_3 84 rfl rfl
theorem dr_cJ15_checkIndex_7cf53_6 : decode cJ15_checkIndex_7cf53 6 = .ok (.ireturn, 1) := by decide +kernel
theorem dr_cJx4a65c_elementData_915e3_0 : decode cJx4a65c_elementData_915e3 0 = .ok (.aload_n 0, 1) := by decide +kernel
theorem dr_cJx4a65c_elementData_915e3_1 : decode cJx4a65c_elementData_915e3 1 = .ok (.getfield 9, 3) := by decide +kernel
theorem wr_7_17 : (Jvm.Cond.fieldLink "java/util/ArrayList" (9 : Nat) "java/util/ArrayList" "elementData" "[Ljava/lang/Object;") ∈ gw := gw_7 17 rfl rfl
theorem dr_cJx4a65c_elementData_915e3_4 : decode cJx4a65c_elementData_915e3 4 = .ok (.iload_n 1, 1) := by decide +kernel
theorem dr_cJx4a65c_elementData_915e3_5 : decode cJx4a65c_elementData_915e3 5 = .ok (.aaload, 1) := by decide +kernel
theorem dr_cJx4a65c_elementData_915e3_6 : decode cJx4a65c_elementData_915e3 6 = .ok (.areturn, 1) := by decide +kernel
theorem dr_cJx4a65c_get_915e3_0 : decode cJx4a65c_get_915e3 0 = .ok (.iload_n 1, 1) := by decide +kernel
theorem dr_cJx4a65c_get_915e3_1 : decode cJx4a65c_get_915e3 1 = .ok (.aload_n 0, 1) := by decide +kernel
theorem dr_cJx4a65c_get_915e3_2 : decode cJx4a65c_get_915e3 2 = .ok (.getfield 48, 3) := by decide +kernel
theorem dr_cJx4a65c_get_915e3_5 : decode cJx4a65c_get_915e3 5 = .ok (.invokestatic 118, 3) := by decide +kernel
theorem wr_10_66 : (Jvm.Cond.methodLink "java/util/ArrayList" (118 : Nat) ({ cls := "java/util/Objects", name := "checkIndex", desc := "(II)I" } : Jvm.MethodName)) ∈ gw := gw_10 66 rfl rfl
theorem wr_1_40 : (Jvm.Cond.initialized "java/util/Objects") ∈ gw := gw_1 40 rfl rfl
theorem wr_10_68 : (Jvm.Cond.code ({ cls := "java/util/Objects", name := "checkIndex", desc := "(II)I" } : Jvm.MethodName) prog_48_method_17_code (2 : Nat) (Option.some Jvm.ClassFile.FieldType.int)) ∈ gw := gw_10 68 rfl rfl
theorem wr_10_67 : (Jvm.Cond.static ({ cls := "java/util/Objects", name := "checkIndex", desc := "(II)I" } : Jvm.MethodName)) ∈ gw := gw_10 67 rfl rfl
theorem dr_cJx4a65c_get_915e3_8 : decode cJx4a65c_get_915e3 8 = .ok (.pop, 1) := by decide +kernel
theorem dr_cJx4a65c_get_915e3_9 : decode cJx4a65c_get_915e3 9 = .ok (.aload_n 0, 1) := by decide +kernel
theorem dr_cJx4a65c_get_915e3_10 : decode cJx4a65c_get_915e3 10 = .ok (.iload_n 1, 1) := by decide +kernel
theorem dr_cJx4a65c_get_915e3_11 : decode cJx4a65c_get_915e3 11 = .ok (.invokevirtual 123, 3) := by decide +kernel
theorem wr_10_70 : (Jvm.Cond.methodLink "java/util/ArrayList" (123 : Nat) ({ cls := "java/util/ArrayList", name := "elementData", desc := "(I)Ljava/lang/Object;" } : Jvm.MethodName)) ∈ gw := gw_10 70 rfl rfl
theorem wr_1_18 : (Jvm.Cond.initialized "java/util/ArrayList") ∈ gw := gw_1 18 rfl rfl
theorem wr_10_73 : (Jvm.Cond.code ({ cls := "java/util/ArrayList", name := "elementData", desc := "(I)Ljava/lang/Object;" } : Jvm.MethodName) prog_43_method_18_code (2 : Nat) (Option.some (Jvm.ClassFile.FieldType.object "java/lang/Object"))) ∈ gw := gw_10 73 rfl rfl
theorem wr_10_71 : (Jvm.Cond.instanceMethod ({ cls := "java/util/ArrayList", name := "elementData", desc := "(I)Ljava/lang/Object;" } : Jvm.MethodName)) ∈ gw := gw_10 71 rfl rfl
theorem wr_10_72 : (Jvm.Cond.selects "java/util/ArrayList" ({ cls := "java/util/ArrayList", name := "elementData", desc := "(I)Ljava/lang/Object;" } : Jvm.MethodName) ({ cls := "java/util/ArrayList", name := "elementData", desc := "(I)Ljava/lang/Object;" } : Jvm.MethodName)) ∈ gw := gw_10 72 rfl rfl
theorem dr_cJx4a65c_get_915e3_14 : decode cJx4a65c_get_915e3 14 = .ok (.areturn, 1) := by decide +kernel
abbrev ky_7_ArrayList_size : gKey := (cJx4a65c_size_8abf5, 1, "java/util/ArrayList", (some FieldType.int), [], "size", fun _ _ => True)
def pp_7_ArrayList_size (D : va_G) (I : FieldType → ClassId) (P1 : List Nat) (F2 : Nat → va_E) (q3 : Nat) (p4 : Int32) (qo5 : Nat) (p6 : Int32) : Option Value → va_W → Nat → Nat → Prop := fun r w dc ds => r = some (.int p6) ∧ w = va_pl P1 F2 ∧ dc ≤ 0 ∧ ds ≤ 0
set_option maxRecDepth 100000 in
set_option maxHeartbeats 4000000 in
theorem cp_7_ArrayList_size (l : Launch) (hl0 : l.stackTraces = false) (D : va_G) (I : FieldType → ClassId) (P1 : List Nat) (F2 : Nat → va_E) (q3 : Nat) (p4 : Int32) (qo5 : Nat) (p6 : Int32) (hmq3 : q3 ∈ P1) (heq3 : F2 q3 = .inr (4, [.int p4, .ref qo5, .int p6])) (bp6 : gB p6 0 16777216) : CtA (gV D I) l yJx4a65c_size_8abf5 cJx4a65c_size_8abf5 1 (some FieldType.int) 0 0 0 0 [.ref q3] (va_pl P1 F2) (pp_7_ArrayList_size D I P1 F2 q3 p4 qo5 p6) gNA := by
  refine CtA_ofF hl0 (by decide +kernel) (Nat.le_of_ble_eq_true rfl) ?_
  have bp4 := gB_any p4
  refine G_aload_n 0 dr_cJx4a65c_size_8abf5_0 rfl ?_
  refine Gp_get 2 hmq3 heq3 dr_cJx4a65c_size_8abf5_1 (gk_Jx4a65c D I) (Nat.le_of_ble_eq_true rfl) wr_7_18 rfl ?_
  exact G_iretA dr_cJx4a65c_size_8abf5_4 rfl (Nat.le_of_ble_eq_true rfl) (Nat.le_of_ble_eq_true rfl) ⟨rfl, rfl, (Nat.le_of_ble_eq_true rfl), (Nat.le_of_ble_eq_true rfl)⟩
abbrev ky_34_Preconditions_checkIndex : gKey := (cJ3_checkIndex_8e157, 3, "jdk/internal/util/Preconditions", (some FieldType.int), [], "checkIndex", fun _ _ => True)
def pp_34_Preconditions_checkIndex (D : va_G) (I : FieldType → ClassId) (P29 : List Nat) (F30 : Nat → va_E) (p31 : Int32) (p32 : Int32) : Option Value → va_W → Nat → Nat → Prop := fun r w dc ds => r = some (.int p31) ∧ w = va_pl P29 F30 ∧ dc ≤ 0 ∧ ds ≤ 0
set_option maxRecDepth 100000 in
set_option maxHeartbeats 4000000 in
theorem cp_34_Preconditions_checkIndex (l : Launch) (hl0 : l.stackTraces = false) (D : va_G) (I : FieldType → ClassId) (P29 : List Nat) (F30 : Nat → va_E) (p31 : Int32) (p32 : Int32) (bp31 : gB p31 0 16777216) (bp32 : gB p32 0 16777216) (x33 : p31.toInt < p32.toInt) : CtA (gV D I) l yJ3_checkIndex_8e157 cJ3_checkIndex_8e157 3 (some FieldType.int) 0 0 0 0 [.int p31, .int p32, .null] (va_pl P29 F30) (pp_34_Preconditions_checkIndex D I P29 F30 p31 p32) gNA := by
  refine CtA_ofF hl0 (by decide +kernel) (Nat.le_of_ble_eq_true rfl) ?_
  refine G_iload_n 0 dr_cJ3_checkIndex_8e157_0 rfl ?_
  refine G_if_lt 9 dr_cJ3_checkIndex_8e157_1 (by decide +kernel) (fun hc => absurd (show False by have := gj_lt hc (show Int32.toInt 0 = 0 by decide); omega) not_false) (fun _ => ?_)
  refine G_iload_n 0 dr_cJ3_checkIndex_8e157_4 rfl ?_
  refine G_iload_n 1 dr_cJ3_checkIndex_8e157_5 rfl ?_
  refine G_icmp_lt 16 dr_cJ3_checkIndex_8e157_6 (by decide +kernel) (fun hc35 => ?_) (fun hc35 => ?_)
  · have r36 : p31.toInt < p32.toInt := gC_lt hc35
    have bp31' : gB p31 0 16777215 := ⟨by omega, by omega⟩
    have bp32' : gB p32 1 16777216 := ⟨by omega, by omega⟩
    refine G_iload_n 0 dr_cJ3_checkIndex_8e157_16 rfl ?_
    exact G_iretA dr_cJ3_checkIndex_8e157_17 rfl (Nat.le_of_ble_eq_true rfl) (Nat.le_of_ble_eq_true rfl) ⟨rfl, rfl, (Nat.le_of_ble_eq_true rfl), (Nat.le_of_ble_eq_true rfl)⟩
  · have r37 : p32.toInt ≤ p31.toInt := gC_nlt hc35
    exact absurd (show False by omega) not_false
abbrev ky_28_Objects_checkIndex : gKey := (cJ15_checkIndex_7cf53, 2, "java/util/Objects", (some FieldType.int), [], "checkIndex", fun _ _ => True)
def pp_28_Objects_checkIndex (D : va_G) (I : FieldType → ClassId) (P23 : List Nat) (F24 : Nat → va_E) (p25 : Int32) (p26 : Int32) : Option Value → va_W → Nat → Nat → Prop := fun r w dc ds => r = some (.int p25) ∧ w = va_pl P23 F24 ∧ dc ≤ 0 ∧ ds ≤ 0
set_option maxRecDepth 100000 in
set_option maxHeartbeats 4000000 in
theorem cp_28_Objects_checkIndex (l : Launch) (hl0 : l.stackTraces = false) (D : va_G) (I : FieldType → ClassId) (P23 : List Nat) (F24 : Nat → va_E) (p25 : Int32) (p26 : Int32) (bp25 : gB p25 0 16777216) (bp26 : gB p26 0 16777216) (x27 : p25.toInt < p26.toInt) : CtA (gV D I) l yJ15_checkIndex_7cf53 cJ15_checkIndex_7cf53 2 (some FieldType.int) 1 22 0 0 [.int p25, .int p26] (va_pl P23 F24) (pp_28_Objects_checkIndex D I P23 F24 p25 p26) gNA := by
  refine CtA_ofF hl0 (by decide +kernel) (Nat.le_of_ble_eq_true rfl) ?_
  refine G_iload_n 0 dr_cJ15_checkIndex_7cf53_0 rfl ?_
  refine G_iload_n 1 dr_cJ15_checkIndex_7cf53_1 rfl ?_
  refine G_null dr_cJ15_checkIndex_7cf53_2 ?_
  refine Gw_callS (As := [.int p25, .int p26, .null]) (gV_ok D I) (cp_34_Preconditions_checkIndex l hl0 D I P23 F24 p25 p26 bp25 bp26 (by omega)) dr_cJ15_checkIndex_7cf53_3 ⟨wr_10_69, wr_1_29, wr_3_85, by decide, rfl, (Nat.le_of_ble_eq_true rfl), (Nat.le_of_ble_eq_true rfl)⟩ wr_3_84 (show 0 ≤ 0 by first | omega | decide) (show 0 ≤ 0 by first | omega | decide) (Nat.le_of_ble_eq_true rfl) (fun r41 w42 dc38 ds39 hp40 => ?_) (fun _ _ _ _ _ z => z.elim)
  obtain ⟨rfl, rfl, hdc, hds⟩ := hp40
  change G _ _ _ _ _ _ _ (.int p25 :: _) _ _ _
  refine G_widen (cs' := 0) (sl' := 0) (by omega) (by omega) ?_
  exact G_iretA dr_cJ15_checkIndex_7cf53_6 rfl (Nat.le_of_ble_eq_true rfl) (Nat.le_of_ble_eq_true rfl) ⟨rfl, rfl, (Nat.le_of_ble_eq_true rfl), (Nat.le_of_ble_eq_true rfl)⟩
abbrev ky_61_ArrayList_elementData : gKey := (cJx4a65c_elementData_915e3, 2, "java/util/ArrayList", (some (FieldType.object "java/lang/Object")), [], "elementData", fun _ _ => True)
def pp_61_ArrayList_elementData (D : va_G) (I : FieldType → ClassId) (P48 : List Nat) (F49 : Nat → va_E) (q50 : Nat) (q51 : Nat) (p52 : Int32) (p53 : Int32) (p54 : Int32) (f55 : Nat → Option Nat) (n56 : Nat) (x57 : Nat) : Option Value → va_W → Nat → Nat → Prop := fun r w dc ds => r = some (.ref x57) ∧ w = va_pl P48 F49 ∧ dc ≤ 0 ∧ ds ≤ 0
set_option maxRecDepth 100000 in
set_option maxHeartbeats 4000000 in
theorem cp_61_ArrayList_elementData (l : Launch) (hl0 : l.stackTraces = false) (D : va_G) (I : FieldType → ClassId) (P48 : List Nat) (F49 : Nat → va_E) (q50 : Nat) (q51 : Nat) (p52 : Int32) (p53 : Int32) (p54 : Int32) (f55 : Nat → Option Nat) (n56 : Nat) (x57 : Nat) (hmq50 : q50 ∈ P48) (hmq51 : q51 ∈ P48) (heq50 : F49 q50 = .inr (4, [.int p53, .ref q51, .int p54])) (heq51 : F49 q51 = .inl (I (.object "java/lang/Object"), n56, .inr (.inr (.inr (.inr f55))))) (bp52 : gB p52 0 16777216) (bp54 : gB p54 0 16777216) (x58 : p52.toInt < (n56 : Int)) (x59 : f55 p52.toNatClampNeg = some x57) (x60 : ((n56 : Int) ≤ 16777216)) : CtA (gV D I) l yJx4a65c_elementData_915e3 cJx4a65c_elementData_915e3 2 (some (FieldType.object "java/lang/Object")) 0 0 0 0 [.ref q50, .int p52] (va_pl P48 F49) (pp_61_ArrayList_elementData D I P48 F49 q50 q51 p52 p53 p54 f55 n56 x57) gNA := by
  refine CtA_ofF hl0 (by decide +kernel) (Nat.le_of_ble_eq_true rfl) ?_
  have bp53 := gB_any p53
  refine G_aload_n 0 dr_cJx4a65c_elementData_915e3_0 rfl ?_
  refine Gp_get 1 hmq50 heq50 dr_cJx4a65c_elementData_915e3_1 (gk_Jx4a65c D I) (Nat.le_of_ble_eq_true rfl) wr_7_17 rfl ?_
  refine G_iload_n 1 dr_cJx4a65c_elementData_915e3_4 rfl ?_
  refine Gp_aald 4 hmq51 heq51 dr_cJx4a65c_elementData_915e3_5 rfl rfl (gB_inr (by omega) (by omega)) ?_
  rw [x59]
  change G _ _ _ _ _ _ _ (.ref x57 :: _) _ _ _
  exact G_aretA (FieldType.object "java/lang/Object") dr_cJx4a65c_elementData_915e3_6 rfl (by first | exact Or.inl ⟨_, rfl⟩ | exact Or.inr ⟨_, rfl⟩) (Or.inr ⟨_, rfl⟩) (Nat.le_of_ble_eq_true rfl) (Nat.le_of_ble_eq_true rfl) ⟨rfl, rfl, (Nat.le_of_ble_eq_true rfl), (Nat.le_of_ble_eq_true rfl)⟩
abbrev ky_22_ArrayList_get : gKey := (cJx4a65c_get_915e3, 2, "java/util/ArrayList", (some (FieldType.object "java/lang/Object")), [], "get", fun _ _ => True)
def pp_22_ArrayList_get (D : va_G) (I : FieldType → ClassId) (P8 : List Nat) (F9 : Nat → va_E) (q10 : Nat) (q11 : Nat) (p12 : Int32) (p13 : Int32) (p14 : Int32) (f15 : Nat → Option Nat) (n16 : Nat) (x17 : Nat) : Option Value → va_W → Nat → Nat → Prop := fun r w dc ds => r = some (.ref x17) ∧ w = va_pl P8 F9 ∧ dc ≤ 0 ∧ ds ≤ 0
set_option maxRecDepth 100000 in
set_option maxHeartbeats 4000000 in
theorem cp_22_ArrayList_get (l : Launch) (hl0 : l.stackTraces = false) (D : va_G) (I : FieldType → ClassId) (P8 : List Nat) (F9 : Nat → va_E) (q10 : Nat) (q11 : Nat) (p12 : Int32) (p13 : Int32) (p14 : Int32) (f15 : Nat → Option Nat) (n16 : Nat) (x17 : Nat) (hmq10 : q10 ∈ P8) (hmq11 : q11 ∈ P8) (heq10 : F9 q10 = .inr (4, [.int p13, .ref q11, .int p14])) (heq11 : F9 q11 = .inl (I (.object "java/lang/Object"), n16, .inr (.inr (.inr (.inr f15))))) (bp12 : gB p12 0 16777216) (bp14 : gB p14 0 16777216) (x18 : p12.toInt < p14.toInt) (x19 : p14.toInt ≤ (n16 : Int)) (x20 : f15 p12.toNatClampNeg = some x17) (x21 : ((n16 : Int) ≤ 16777216)) : CtA (gV D I) l yJx4a65c_get_915e3 cJx4a65c_get_915e3 2 (some (FieldType.object "java/lang/Object")) 2 43 0 0 [.ref q10, .int p12] (va_pl P8 F9) (pp_22_ArrayList_get D I P8 F9 q10 q11 p12 p13 p14 f15 n16 x17) gNA := by
  refine CtA_ofF hl0 (by decide +kernel) (Nat.le_of_ble_eq_true rfl) ?_
  have bp13 := gB_any p13
  refine G_iload_n 1 dr_cJx4a65c_get_915e3_0 rfl ?_
  refine G_aload_n 0 dr_cJx4a65c_get_915e3_1 rfl ?_
  refine Gp_get 2 hmq10 heq10 dr_cJx4a65c_get_915e3_2 (gk_Jx4a65c D I) (Nat.le_of_ble_eq_true rfl) wr_7_18 rfl ?_
  refine Gw_callS (As := [.int p12, .int p14]) (gV_ok D I) (cp_28_Objects_checkIndex l hl0 D I P8 F9 p12 p14 bp12 bp14 (by omega)) dr_cJx4a65c_get_915e3_5 ⟨wr_10_66, wr_1_40, wr_10_68, by decide, rfl, (Nat.le_of_ble_eq_true rfl), (Nat.le_of_ble_eq_true rfl)⟩ wr_10_67 (show 0 ≤ 0 by first | omega | decide) (show 0 ≤ 0 by first | omega | decide) (Nat.le_of_ble_eq_true rfl) (fun r46 w47 dc43 ds44 hp45 => ?_) (fun _ _ _ _ _ z => z.elim)
  obtain ⟨rfl, rfl, hdc, hds⟩ := hp45
  change G _ _ _ _ _ _ _ (.int p12 :: _) _ _ _
  refine G_widen (cs' := 0) (sl' := 0) (by omega) (by omega) ?_
  refine G_pop dr_cJx4a65c_get_915e3_8 rfl ?_
  refine G_aload_n 0 dr_cJx4a65c_get_915e3_9 rfl ?_
  refine G_iload_n 1 dr_cJx4a65c_get_915e3_10 rfl ?_
  refine Gw_callV (As := [.int p12]) (gV_ok D I) (cp_61_ArrayList_elementData l hl0 D I P8 F9 q10 q11 p12 p13 p14 f15 n16 x17 hmq10 hmq11 heq10 heq11 bp12 bp14 (by omega) (by assumption) (by omega)) dr_cJx4a65c_get_915e3_11 ⟨wr_10_70, wr_1_18, wr_10_73, by decide, rfl, (Nat.le_of_ble_eq_true rfl), (Nat.le_of_ble_eq_true rfl)⟩ wr_10_71 wr_10_72 hmq10 heq10 rfl (show 0 ≤ 0 by first | omega | decide) (show 0 ≤ 0 by first | omega | decide) (Nat.le_of_ble_eq_true rfl) (fun r65 w66 dc62 ds63 hp64 => ?_) (fun _ _ _ _ _ z => z.elim)
  obtain ⟨rfl, rfl, hdc, hds⟩ := hp64
  change G _ _ _ _ _ _ _ (.ref x17 :: _) _ _ _
  refine G_widen (cs' := 0) (sl' := 0) (by omega) (by omega) ?_
  exact G_aretA (FieldType.object "java/lang/Object") dr_cJx4a65c_get_915e3_14 rfl (by first | exact Or.inl ⟨_, rfl⟩ | exact Or.inr ⟨_, rfl⟩) (Or.inr ⟨_, rfl⟩) (Nat.le_of_ble_eq_true rfl) (Nat.le_of_ble_eq_true rfl) ⟨rfl, rfl, (Nat.le_of_ble_eq_true rfl), (Nat.le_of_ble_eq_true rfl)⟩
