theorem dr_cJx4a65c_size_8abf5_0 : decode cJx4a65c_size_8abf5 0 = .ok (.aload_n 0, 1) := by decide +kernel
theorem dr_cJx4a65c_size_8abf5_1 : decode cJx4a65c_size_8abf5 1 = .ok (.getfield 48, 3) := by decide +kernel
theorem wr_7_18 : (Jvm.Cond.fieldLink "java/util/ArrayList" (48 : Nat) "java/util/ArrayList" "size" "I") ∈ gw := gw_7 18 rfl rfl
theorem dr_cJx4a65c_size_8abf5_4 : decode cJx4a65c_size_8abf5 4 = .ok (.ireturn, 1) := by decide +kernel
theorem dr_cJ3_checkIndex_8e157_0 : decode cJ3_checkIndex_8e157 0 = .ok (.iload_n 0, 1) := by decide +kernel
theorem dr_cJ3_checkIndex_8e157_1 : decode cJ3_checkIndex_8e157 1 = .ok (.ifCond .lt 8, 3) := by decide +kernel
theorem dr_cJ3_checkIndex_8e157_4 : decode cJ3_checkIndex_8e157 4 = .ok (.iload_n 0, 1) := by decide +kernel
theorem dr_cJ3_checkIndex_8e157_5 : decode cJ3_checkIndex_8e157 5 = .ok (.iload_n 1, 1) := by decide +kernel
theorem dr_cJ3_checkIndex_8e157_6 : decode cJ3_checkIndex_8e157 6 = .ok (.if_icmp .lt 10, 3) := by decide +kernel
theorem dr_cJ3_checkIndex_8e157_16 : decode cJ3_checkIndex_8e157 16 = .ok (.iload_n 0, 1) := by decide +kernel
theorem dr_cJ3_checkIndex_8e157_17 : decode cJ3_checkIndex_8e157 17 = .ok (.ireturn, 1) := by decide +kernel
theorem dr_cJ15_checkIndex_7cf53_0 : decode cJ15_checkIndex_7cf53 0 = .ok (.iload_n 0, 1) := by decide +kernel
theorem dr_cJ15_checkIndex_7cf53_1 : decode cJ15_checkIndex_7cf53 1 = .ok (.iload_n 1, 1) := by decide +kernel
theorem dr_cJ15_checkIndex_7cf53_2 : decode cJ15_checkIndex_7cf53 2 = .ok (.aconst_null, 1) := by decide +kernel
theorem dr_cJ15_checkIndex_7cf53_3 : decode cJ15_checkIndex_7cf53 3 = .ok (.invokestatic 105, 3) := by decide +kernel
theorem wr_10_65 : (Jvm.Cond.methodLink "java/util/Objects" (105 : Nat) ({ cls := "jdk/internal/util/Preconditions", name := "checkIndex", desc := "(IILjava/util/function/BiFunction;)I" } : Jvm.MethodName)) ∈ gw := gw_10 65 rfl rfl
theorem wr_1_29 : (Jvm.Cond.initialized "jdk/internal/util/Preconditions") ∈ gw := gw_1 29 rfl rfl
theorem wr_3_85 : (Jvm.Cond.code ({ cls := "jdk/internal/util/Preconditions", name := "checkIndex", desc := "(IILjava/util/function/BiFunction;)I" } : Jvm.MethodName) prog_52_method_11_code (3 : Nat) (Option.some Jvm.ClassFile.FieldType.int)) ∈ gw := gw_3 85 rfl rfl
theorem wr_3_84 : (Jvm.Cond.static ({ cls := "jdk/internal/util/Preconditions", name := "checkIndex", desc := "(IILjava/util/function/BiFunction;)I" } : Jvm.MethodName)) ∈ gw := gw_3 84 rfl rfl
theorem dr_cJ15_checkIndex_7cf53_6 : decode cJ15_checkIndex_7cf53 6 = .ok (.ireturn, 1) := by decide +kernel
theorem dr_cJx4a65c_elementData_915e3_0 : decode cJx4a65c_elementData_915e3 0 = .ok (.aload_n 0, 1) := by decide +kernel
theorem dr_cJx4a65c_elementData_915e3_1 : decode cJx4a65c_elementData_915e3 1 = .ok (.getfield 9, 3) := by decide +kernel
theorem wr_7_17 : (Jvm.Cond.fieldLink "java/util/ArrayList" (9 : Nat) "java/util/ArrayList" "elementData" "[Ljava/lang/Object;") ∈ gw := gw_7 17 rfl rfl
theorem dr_cJx4a65c_elementData_915e3_4 : decode cJx4a65c_elementData_915e3 4 = .ok (.iload_n 1, 1) := by decide +kernel
theorem dr_cJx4a65c_elementData_915e3_5 : decode cJx4a65c_elementData_915e3 5 = .ok (.aaload, 1) := by decide +kernel
theorem dr_cJx4a65c_elementData_915e3_6 : decode cJx4a65c_elementData_915e3 6 = .ok (.areturn, 1) := by decide +kernel
theorem dr_cJx4a65c_get_915e3_0 : decode cJx4a65c_get_915e3 0 = .ok (.iload_n 1, 1) := by decide +kernel
theorem dr_cJx4a65c_get_915e3_1 : decode cJx4a65c_get_915e3 1 = .ok (.aload_n 0, 1) := by decide +kernel
theorem dr_cJx4a65c_get_915e3_2 : decode cJx4a65c_get_915e3 2 = .ok (.getfield 48, 3) := by decide +kernel
theorem dr_cJx4a65c_get_915e3_5 : decode cJx4a65c_get_915e3 5 = .ok (.invokestatic 118, 3) := by decide +kernel
theorem wr_10_62 : (Jvm.Cond.methodLink "java/util/ArrayList" (118 : Nat) ({ cls := "java/util/Objects", name := "checkIndex", desc := "(II)I" } : Jvm.MethodName)) ∈ gw := gw_10 62 rfl rfl
theorem wr_1_40 : (Jvm.Cond.initialized "java/util/Objects") ∈ gw := gw_1 40 rfl rfl
theorem wr_10_64 : (Jvm.Cond.code ({ cls := "java/util/Objects", name := "checkIndex", desc := "(II)I" } : Jvm.MethodName) prog_48_method_17_code (2 : Nat) (Option.some Jvm.ClassFile.FieldType.int)) ∈ gw := gw_10 64 rfl rfl
theorem wr_10_63 : (Jvm.Cond.static ({ cls := "java/util/Objects", name := "checkIndex", desc := "(II)I" } : Jvm.MethodName)) ∈ gw := gw_10 63 rfl rfl
theorem dr_cJx4a65c_get_915e3_8 : decode cJx4a65c_get_915e3 8 = .ok (.pop, 1) := by decide +kernel
theorem dr_cJx4a65c_get_915e3_9 : decode cJx4a65c_get_915e3 9 = .ok (.aload_n 0, 1) := by decide +kernel
theorem dr_cJx4a65c_get_915e3_10 : decode cJx4a65c_get_915e3 10 = .ok (.iload_n 1, 1) := by decide +kernel
theorem dr_cJx4a65c_get_915e3_11 : decode cJx4a65c_get_915e3 11 = .ok (.invokevirtual 123, 3) := by decide +kernel
theorem wr_10_66 : (Jvm.Cond.methodLink "java/util/ArrayList" (123 : Nat) ({ cls := "java/util/ArrayList", name := "elementData", desc := "(I)Ljava/lang/Object;" } : Jvm.MethodName)) ∈ gw := gw_10 66 rfl rfl
theorem wr_1_18 : (Jvm.Cond.initialized "java/util/ArrayList") ∈ gw := gw_1 18 rfl rfl
theorem wr_10_69 : (Jvm.Cond.code ({ cls := "java/util/ArrayList", name := "elementData", desc := "(I)Ljava/lang/Object;" } : Jvm.MethodName) prog_43_method_18_code (2 : Nat) (Option.some (Jvm.ClassFile.FieldType.object "java/lang/Object"))) ∈ gw := gw_10 69 rfl rfl
theorem wr_10_67 : (Jvm.Cond.instanceMethod ({ cls := "java/util/ArrayList", name := "elementData", desc := "(I)Ljava/lang/Object;" } : Jvm.MethodName)) ∈ gw := gw_10 67 rfl rfl
theorem wr_10_68 : (Jvm.Cond.selects "java/util/ArrayList" ({ cls := "java/util/ArrayList", name := "elementData", desc := "(I)Ljava/lang/Object;" } : Jvm.MethodName) ({ cls := "java/util/ArrayList", name := "elementData", desc := "(I)Ljava/lang/Object;" } : Jvm.MethodName)) ∈ gw := gw_10 68 rfl rfl
theorem dr_cJx4a65c_get_915e3_14 : decode cJx4a65c_get_915e3 14 = .ok (.areturn, 1) := by decide +kernel
theorem dr_cJx4a65c_add_72be8_0 : decode cJx4a65c_add_72be8 0 = .ok (.iload_n 3, 1) := by decide +kernel
theorem dr_cJx4a65c_add_72be8_1 : decode cJx4a65c_add_72be8 1 = .ok (.aload_n 2, 1) := by decide +kernel
theorem dr_cJx4a65c_add_72be8_2 : decode cJx4a65c_add_72be8 2 = .ok (.arraylength, 1) := by decide +kernel
theorem dr_cJx4a65c_add_72be8_3 : decode cJx4a65c_add_72be8 3 = .ok (.if_icmp .ne 8, 3) := by decide +kernel
theorem dr_cJx4a65c_add_72be8_11 : decode cJx4a65c_add_72be8 11 = .ok (.aload_n 2, 1) := by decide +kernel
theorem dr_cJx4a65c_add_72be8_12 : decode cJx4a65c_add_72be8 12 = .ok (.iload_n 3, 1) := by decide +kernel
theorem dr_cJx4a65c_add_72be8_13 : decode cJx4a65c_add_72be8 13 = .ok (.aload_n 1, 1) := by decide +kernel
theorem dr_cJx4a65c_add_72be8_14 : decode cJx4a65c_add_72be8 14 = .ok (.aastore, 1) := by decide +kernel
theorem dr_cJx4a65c_add_72be8_15 : decode cJx4a65c_add_72be8 15 = .ok (.aload_n 0, 1) := by decide +kernel
theorem dr_cJx4a65c_add_72be8_16 : decode cJx4a65c_add_72be8 16 = .ok (.iload_n 3, 1) := by decide +kernel
theorem dr_cJx4a65c_add_72be8_17 : decode cJx4a65c_add_72be8 17 = .ok (.iconst 1, 1) := by decide +kernel
theorem dr_cJx4a65c_add_72be8_18 : decode cJx4a65c_add_72be8 18 = .ok (.iadd, 1) := by decide +kernel
theorem dr_cJx4a65c_add_72be8_19 : decode cJx4a65c_add_72be8 19 = .ok (.putfield 48, 3) := by decide +kernel
theorem dr_cJx4a65c_add_72be8_22 : decode cJx4a65c_add_72be8 22 = .ok (.return_, 1) := by decide +kernel
theorem dr_cJx4a65c_add_9ea2d_0 : decode cJx4a65c_add_9ea2d 0 = .ok (.aload_n 0, 1) := by decide +kernel
theorem dr_cJx4a65c_add_9ea2d_1 : decode cJx4a65c_add_9ea2d 1 = .ok (.dup, 1) := by decide +kernel
theorem dr_cJx4a65c_add_9ea2d_2 : decode cJx4a65c_add_9ea2d 2 = .ok (.getfield 63, 3) := by decide +kernel
theorem wr_7_20 : (Jvm.Cond.fieldLink "java/util/ArrayList" (63 : Nat) "java/util/ArrayList" "modCount" "I") ∈ gw := gw_7 20 rfl rfl
theorem wr_7_21 : (Jvm.Cond.sameField "java/util/ArrayList" "java/util/AbstractList" "modCount" "I") ∈ gw := gw_7 21 rfl rfl
theorem dr_cJx4a65c_add_9ea2d_5 : decode cJx4a65c_add_9ea2d 5 = .ok (.iconst 1, 1) := by decide +kernel
theorem dr_cJx4a65c_add_9ea2d_6 : decode cJx4a65c_add_9ea2d 6 = .ok (.iadd, 1) := by decide +kernel
theorem dr_cJx4a65c_add_9ea2d_7 : decode cJx4a65c_add_9ea2d 7 = .ok (.putfield 63, 3) := by decide +kernel
theorem dr_cJx4a65c_add_9ea2d_10 : decode cJx4a65c_add_9ea2d 10 = .ok (.aload_n 0, 1) := by decide +kernel
theorem dr_cJx4a65c_add_9ea2d_11 : decode cJx4a65c_add_9ea2d 11 = .ok (.aload_n 1, 1) := by decide +kernel
theorem dr_cJx4a65c_add_9ea2d_12 : decode cJx4a65c_add_9ea2d 12 = .ok (.aload_n 0, 1) := by decide +kernel
theorem dr_cJx4a65c_add_9ea2d_13 : decode cJx4a65c_add_9ea2d 13 = .ok (.getfield 9, 3) := by decide +kernel
theorem dr_cJx4a65c_add_9ea2d_16 : decode cJx4a65c_add_9ea2d 16 = .ok (.aload_n 0, 1) := by decide +kernel
theorem dr_cJx4a65c_add_9ea2d_17 : decode cJx4a65c_add_9ea2d 17 = .ok (.getfield 48, 3) := by decide +kernel
theorem dr_cJx4a65c_add_9ea2d_20 : decode cJx4a65c_add_9ea2d 20 = .ok (.invokevirtual 131, 3) := by decide +kernel
theorem wr_10_3 : (Jvm.Cond.methodLink "java/util/ArrayList" (131 : Nat) ({ cls := "java/util/ArrayList", name := "add", desc := "(Ljava/lang/Object;[Ljava/lang/Object;I)V" } : Jvm.MethodName)) ∈ gw := gw_10 3 rfl rfl
theorem wr_10_6 : (Jvm.Cond.code ({ cls := "java/util/ArrayList", name := "add", desc := "(Ljava/lang/Object;[Ljava/lang/Object;I)V" } : Jvm.MethodName) prog_43_method_24_code (4 : Nat) (Option.none : Option Jvm.ClassFile.FieldType)) ∈ gw := gw_10 6 rfl rfl
theorem wr_10_5 : (Jvm.Cond.instanceMethod ({ cls := "java/util/ArrayList", name := "add", desc := "(Ljava/lang/Object;[Ljava/lang/Object;I)V" } : Jvm.MethodName)) ∈ gw := gw_10 5 rfl rfl
theorem wr_p_85 : Cond.selects "java/util/ArrayList" ⟨"java/util/ArrayList", "add", "(Ljava/lang/Object;[Ljava/lang/Object;I)V"⟩ ⟨"java/util/ArrayList", "add", "(Ljava/lang/Object;[Ljava/lang/Object;I)V"⟩ ∈ gw := gw_p _ 85 rfl rfl rfl
theorem dr_cJx4a65c_add_9ea2d_23 : decode cJx4a65c_add_9ea2d 23 = .ok (.iconst 1, 1) := by decide +kernel
theorem dr_cJx4a65c_add_9ea2d_24 : decode cJx4a65c_add_9ea2d 24 = .ok (.ireturn, 1) := by decide +kernel
theorem dr_cJ8_newLength_cabcc_0 : decode cJ8_newLength_cabcc 0 = .ok (.iload_n 0, 1) := by decide +kernel
theorem dr_cJ8_newLength_cabcc_1 : decode cJ8_newLength_cabcc 1 = .ok (.iload_n 1, 1) := by decide +kernel
theorem dr_cJ8_newLength_cabcc_2 : decode cJ8_newLength_cabcc 2 = .ok (.iload_n 2, 1) := by decide +kernel
theorem dr_cJ8_newLength_cabcc_3 : decode cJ8_newLength_cabcc 3 = .ok (.invokestatic 194, 3) := by decide +kernel
theorem wr_8_11 : (Jvm.Cond.methodLink "jdk/internal/util/ArraysSupport" (194 : Nat) ({ cls := "java/lang/Math", name := "max", desc := "(II)I" } : Jvm.MethodName)) ∈ gw := gw_8 11 rfl rfl
theorem wr_1_140 : (Jvm.Cond.static ({ cls := "java/lang/Math", name := "max", desc := "(II)I" } : Jvm.MethodName)) ∈ gw := gw_1 140 rfl rfl
theorem wr_1_6 : (Jvm.Cond.initialized "java/lang/Math") ∈ gw := gw_1 6 rfl rfl
theorem wr_1_141 : (Jvm.Cond.code ({ cls := "java/lang/Math", name := "max", desc := "(II)I" } : Jvm.MethodName) prog_32_method_65_code (2 : Nat) (Option.some Jvm.ClassFile.FieldType.int)) ∈ gw := gw_1 141 rfl rfl
theorem dr_cJ8_newLength_cabcc_6 : decode cJ8_newLength_cabcc 6 = .ok (.iadd, 1) := by decide +kernel
theorem dr_cJ8_newLength_cabcc_7 : decode cJ8_newLength_cabcc 7 = .ok (.istore_n 3, 1) := by decide +kernel
theorem dr_cJ8_newLength_cabcc_8 : decode cJ8_newLength_cabcc 8 = .ok (.iconst 0, 1) := by decide +kernel
theorem dr_cJ8_newLength_cabcc_9 : decode cJ8_newLength_cabcc 9 = .ok (.iload_n 3, 1) := by decide +kernel
theorem dr_cJ8_newLength_cabcc_10 : decode cJ8_newLength_cabcc 10 = .ok (.if_icmp .ge 11, 3) := by decide +kernel
theorem dr_cJ8_newLength_cabcc_13 : decode cJ8_newLength_cabcc 13 = .ok (.iload_n 3, 1) := by decide +kernel
theorem dr_cJ8_newLength_cabcc_14 : decode cJ8_newLength_cabcc 14 = .ok (.ldc 200, 2) := by decide +kernel
theorem wr_8_12 : (Jvm.Cond.constant "jdk/internal/util/ArraysSupport" (200 : Nat) (2147483639 : Int32)) ∈ gw := gw_8 12 rfl rfl
theorem dr_cJ8_newLength_cabcc_16 : decode cJ8_newLength_cabcc 16 = .ok (.if_icmp .gt 5, 3) := by decide +kernel
theorem dr_cJ8_newLength_cabcc_19 : decode cJ8_newLength_cabcc 19 = .ok (.iload_n 3, 1) := by decide +kernel
theorem dr_cJ8_newLength_cabcc_20 : decode cJ8_newLength_cabcc 20 = .ok (.ireturn, 1) := by decide +kernel
theorem dr_cJ7_copyOf_6403c_0 : decode cJ7_copyOf_6403c 0 = .ok (.aload_n 2, 1) := by decide +kernel
theorem dr_cJ7_copyOf_6403c_1 : decode cJ7_copyOf_6403c 1 = .ok (.ldc 110, 2) := by decide +kernel
theorem wr_10_53 : (Jvm.Cond.classLink "java/util/Arrays" (110 : Nat) "[Ljava/lang/Object;") ∈ gw := gw_10 53 rfl rfl
theorem dr_cJ7_copyOf_6403c_3 : decode cJ7_copyOf_6403c 3 = .ok (.if_acmp .ne 10, 3) := by decide +kernel
theorem dr_cJ7_copyOf_6403c_6 : decode cJ7_copyOf_6403c 6 = .ok (.iload_n 1, 1) := by decide +kernel
theorem dr_cJ7_copyOf_6403c_7 : decode cJ7_copyOf_6403c 7 = .ok (.anewarray 2, 3) := by decide +kernel
theorem wr_10_55 : (Jvm.Cond.classLink "java/util/Arrays" (2 : Nat) "java/lang/Object") ∈ gw := gw_10 55 rfl rfl
theorem dr_cJ7_copyOf_6403c_10 : decode cJ7_copyOf_6403c 10 = .ok (.goto 14, 3) := by decide +kernel
theorem dr_cJ7_copyOf_6403c_24 : decode cJ7_copyOf_6403c 24 = .ok (.astore_n 3, 1) := by decide +kernel
theorem dr_cJ7_copyOf_6403c_25 : decode cJ7_copyOf_6403c 25 = .ok (.aload_n 0, 1) := by decide +kernel
theorem dr_cJ7_copyOf_6403c_26 : decode cJ7_copyOf_6403c 26 = .ok (.iconst 0, 1) := by decide +kernel
theorem dr_cJ7_copyOf_6403c_27 : decode cJ7_copyOf_6403c 27 = .ok (.aload_n 3, 1) := by decide +kernel
theorem dr_cJ7_copyOf_6403c_28 : decode cJ7_copyOf_6403c 28 = .ok (.iconst 0, 1) := by decide +kernel
theorem dr_cJ7_copyOf_6403c_29 : decode cJ7_copyOf_6403c 29 = .ok (.aload_n 0, 1) := by decide +kernel
theorem dr_cJ7_copyOf_6403c_30 : decode cJ7_copyOf_6403c 30 = .ok (.arraylength, 1) := by decide +kernel
theorem dr_cJ7_copyOf_6403c_31 : decode cJ7_copyOf_6403c 31 = .ok (.iload_n 1, 1) := by decide +kernel
theorem dr_cJ7_copyOf_6403c_32 : decode cJ7_copyOf_6403c 32 = .ok (.invokestatic 304, 3) := by decide +kernel
theorem wr_8_27 : (Jvm.Cond.methodLink "java/util/Arrays" (304 : Nat) ({ cls := "java/lang/Math", name := "min", desc := "(II)I" } : Jvm.MethodName)) ∈ gw := gw_8 27 rfl rfl
theorem wr_3_227 : (Jvm.Cond.static ({ cls := "java/lang/Math", name := "min", desc := "(II)I" } : Jvm.MethodName)) ∈ gw := gw_3 227 rfl rfl
theorem wr_3_228 : (Jvm.Cond.code ({ cls := "java/lang/Math", name := "min", desc := "(II)I" } : Jvm.MethodName) prog_32_method_69_code (2 : Nat) (Option.some Jvm.ClassFile.FieldType.int)) ∈ gw := gw_3 228 rfl rfl
theorem dr_cJ7_copyOf_6403c_35 : decode cJ7_copyOf_6403c 35 = .ok (.invokestatic 150, 3) := by decide +kernel
theorem wr_8_28 : (Jvm.Cond.methodLink "java/util/Arrays" (150 : Nat) ({ cls := "java/lang/System", name := "arraycopy", desc := "(Ljava/lang/Object;ILjava/lang/Object;II)V" } : Jvm.MethodName)) ∈ gw := gw_8 28 rfl rfl
theorem wr_5_113 : (Jvm.Cond.native ({ cls := "java/lang/System", name := "arraycopy", desc := "(Ljava/lang/Object;ILjava/lang/Object;II)V" } : Jvm.MethodName)) ∈ gw := gw_5 113 rfl rfl
theorem wr_5_112 : (Jvm.Cond.static ({ cls := "java/lang/System", name := "arraycopy", desc := "(Ljava/lang/Object;ILjava/lang/Object;II)V" } : Jvm.MethodName)) ∈ gw := gw_5 112 rfl rfl
theorem wr_1_34 : (Jvm.Cond.initialized "java/lang/System") ∈ gw := gw_1 34 rfl rfl
theorem dr_cJ7_copyOf_6403c_38 : decode cJ7_copyOf_6403c 38 = .ok (.aload_n 3, 1) := by decide +kernel
theorem dr_cJ7_copyOf_6403c_39 : decode cJ7_copyOf_6403c 39 = .ok (.areturn, 1) := by decide +kernel
theorem dr_cJ7_copyOf_1904c_0 : decode cJ7_copyOf_1904c 0 = .ok (.aload_n 0, 1) := by decide +kernel
theorem dr_cJ7_copyOf_1904c_1 : decode cJ7_copyOf_1904c 1 = .ok (.iload_n 1, 1) := by decide +kernel
theorem dr_cJ7_copyOf_1904c_2 : decode cJ7_copyOf_1904c 2 = .ok (.aload_n 0, 1) := by decide +kernel
theorem dr_cJ7_copyOf_1904c_3 : decode cJ7_copyOf_1904c 3 = .ok (.invokevirtual 86, 3) := by decide +kernel
theorem wr_10_19 : (Jvm.Cond.methodLink "java/util/Arrays" (86 : Nat) ({ cls := "java/lang/Object", name := "getClass", desc := "()Ljava/lang/Class;" } : Jvm.MethodName)) ∈ gw := gw_10 19 rfl rfl
theorem wr_11_237 : (Jvm.Cond.selects "[Ljava/lang/Object;" ({ cls := "java/lang/Object", name := "getClass", desc := "()Ljava/lang/Class;" } : Jvm.MethodName) ({ cls := "java/lang/Object", name := "getClass", desc := "()Ljava/lang/Class;" } : Jvm.MethodName)) ∈ gw := gw_11 237 rfl rfl
theorem wr_10_20 : (Jvm.Cond.instanceMethod ({ cls := "java/lang/Object", name := "getClass", desc := "()Ljava/lang/Class;" } : Jvm.MethodName)) ∈ gw := gw_10 20 rfl rfl
theorem wr_10_49 : (Jvm.Cond.native ({ cls := "java/lang/Object", name := "getClass", desc := "()Ljava/lang/Class;" } : Jvm.MethodName)) ∈ gw := gw_10 49 rfl rfl
theorem dr_cJ7_copyOf_1904c_6 : decode cJ7_copyOf_1904c 6 = .ok (.invokestatic 300, 3) := by decide +kernel
theorem wr_10_50 : (Jvm.Cond.methodLink "java/util/Arrays" (300 : Nat) ({ cls := "java/util/Arrays", name := "copyOf", desc := "([Ljava/lang/Object;ILjava/lang/Class;)[Ljava/lang/Object;" } : Jvm.MethodName)) ∈ gw := gw_10 50 rfl rfl
theorem wr_1_30 : (Jvm.Cond.initialized "java/util/Arrays") ∈ gw := gw_1 30 rfl rfl
theorem wr_10_52 : (Jvm.Cond.code ({ cls := "java/util/Arrays", name := "copyOf", desc := "([Ljava/lang/Object;ILjava/lang/Class;)[Ljava/lang/Object;" } : Jvm.MethodName) prog_44_method_120_code (4 : Nat) (Option.some (Jvm.ClassFile.FieldType.array (Jvm.ClassFile.FieldType.object "java/lang/Object")))) ∈ gw := gw_10 52 rfl rfl
theorem wr_10_51 : (Jvm.Cond.static ({ cls := "java/util/Arrays", name := "copyOf", desc := "([Ljava/lang/Object;ILjava/lang/Class;)[Ljava/lang/Object;" } : Jvm.MethodName)) ∈ gw := gw_10 51 rfl rfl
theorem dr_cJ7_copyOf_1904c_9 : decode cJ7_copyOf_1904c 9 = .ok (.areturn, 1) := by decide +kernel
theorem dr_cJx4a65c_grow_92f84_0 : decode cJx4a65c_grow_92f84 0 = .ok (.aload_n 0, 1) := by decide +kernel
theorem dr_cJx4a65c_grow_92f84_1 : decode cJx4a65c_grow_92f84 1 = .ok (.getfield 9, 3) := by decide +kernel
theorem dr_cJx4a65c_grow_92f84_4 : decode cJx4a65c_grow_92f84 4 = .ok (.arraylength, 1) := by decide +kernel
theorem dr_cJx4a65c_grow_92f84_5 : decode cJx4a65c_grow_92f84 5 = .ok (.istore_n 2, 1) := by decide +kernel
theorem dr_cJx4a65c_grow_92f84_6 : decode cJx4a65c_grow_92f84 6 = .ok (.iload_n 2, 1) := by decide +kernel
theorem dr_cJx4a65c_grow_92f84_7 : decode cJx4a65c_grow_92f84 7 = .ok (.ifCond .gt 13, 3) := by decide +kernel
theorem dr_cJx4a65c_grow_92f84_20 : decode cJx4a65c_grow_92f84 20 = .ok (.iload_n 2, 1) := by decide +kernel
theorem dr_cJx4a65c_grow_92f84_21 : decode cJx4a65c_grow_92f84 21 = .ok (.iload_n 1, 1) := by decide +kernel
theorem dr_cJx4a65c_grow_92f84_22 : decode cJx4a65c_grow_92f84 22 = .ok (.iload_n 2, 1) := by decide +kernel
theorem dr_cJx4a65c_grow_92f84_23 : decode cJx4a65c_grow_92f84 23 = .ok (.isub, 1) := by decide +kernel
theorem dr_cJx4a65c_grow_92f84_24 : decode cJx4a65c_grow_92f84 24 = .ok (.iload_n 2, 1) := by decide +kernel
theorem dr_cJx4a65c_grow_92f84_25 : decode cJx4a65c_grow_92f84 25 = .ok (.iconst 1, 1) := by decide +kernel
theorem dr_cJx4a65c_grow_92f84_26 : decode cJx4a65c_grow_92f84 26 = .ok (.ishr, 1) := by decide +kernel
theorem dr_cJx4a65c_grow_92f84_27 : decode cJx4a65c_grow_92f84 27 = .ok (.invokestatic 73, 3) := by decide +kernel
theorem wr_10_15 : (Jvm.Cond.methodLink "java/util/ArrayList" (73 : Nat) ({ cls := "jdk/internal/util/ArraysSupport", name := "newLength", desc := "(III)I" } : Jvm.MethodName)) ∈ gw := gw_10 15 rfl rfl
theorem wr_1_33 : (Jvm.Cond.initialized "jdk/internal/util/ArraysSupport") ∈ gw := gw_1 33 rfl rfl
theorem wr_8_10 : (Jvm.Cond.code ({ cls := "jdk/internal/util/ArraysSupport", name := "newLength", desc := "(III)I" } : Jvm.MethodName) prog_51_method_27_code (4 : Nat) (Option.some Jvm.ClassFile.FieldType.int)) ∈ gw := gw_8 10 rfl rfl
theorem wr_8_9 : (Jvm.Cond.static ({ cls := "jdk/internal/util/ArraysSupport", name := "newLength", desc := "(III)I" } : Jvm.MethodName)) ∈ gw := gw_8 9 rfl rfl
theorem dr_cJx4a65c_grow_92f84_30 : decode cJx4a65c_grow_92f84 30 = .ok (.istore_n 3, 1) := by decide +kernel
theorem dr_cJx4a65c_grow_92f84_31 : decode cJx4a65c_grow_92f84 31 = .ok (.aload_n 0, 1) := by decide +kernel
theorem dr_cJx4a65c_grow_92f84_32 : decode cJx4a65c_grow_92f84 32 = .ok (.aload_n 0, 1) := by decide +kernel
theorem dr_cJx4a65c_grow_92f84_33 : decode cJx4a65c_grow_92f84 33 = .ok (.getfield 9, 3) := by decide +kernel
theorem dr_cJx4a65c_grow_92f84_36 : decode cJx4a65c_grow_92f84 36 = .ok (.iload_n 3, 1) := by decide +kernel
theorem dr_cJx4a65c_grow_92f84_37 : decode cJx4a65c_grow_92f84 37 = .ok (.invokestatic 66, 3) := by decide +kernel
theorem wr_10_16 : (Jvm.Cond.methodLink "java/util/ArrayList" (66 : Nat) ({ cls := "java/util/Arrays", name := "copyOf", desc := "([Ljava/lang/Object;I)[Ljava/lang/Object;" } : Jvm.MethodName)) ∈ gw := gw_10 16 rfl rfl
theorem wr_10_18 : (Jvm.Cond.code ({ cls := "java/util/Arrays", name := "copyOf", desc := "([Ljava/lang/Object;I)[Ljava/lang/Object;" } : Jvm.MethodName) prog_44_method_119_code (2 : Nat) (Option.some (Jvm.ClassFile.FieldType.array (Jvm.ClassFile.FieldType.object "java/lang/Object")))) ∈ gw := gw_10 18 rfl rfl
theorem wr_10_17 : (Jvm.Cond.static ({ cls := "java/util/Arrays", name := "copyOf", desc := "([Ljava/lang/Object;I)[Ljava/lang/Object;" } : Jvm.MethodName)) ∈ gw := gw_10 17 rfl rfl
theorem dr_cJx4a65c_grow_92f84_40 : decode cJx4a65c_grow_92f84 40 = .ok (.dup_x1, 1) := by decide +kernel
theorem dr_cJx4a65c_grow_92f84_41 : decode cJx4a65c_grow_92f84 41 = .ok (.putfield 9, 3) := by decide +kernel
theorem dr_cJx4a65c_grow_92f84_44 : decode cJx4a65c_grow_92f84 44 = .ok (.areturn, 1) := by decide +kernel
theorem dr_cJx4a65c_grow_d5877_0 : decode cJx4a65c_grow_d5877 0 = .ok (.aload_n 0, 1) := by decide +kernel
theorem dr_cJx4a65c_grow_d5877_1 : decode cJx4a65c_grow_d5877 1 = .ok (.aload_n 0, 1) := by decide +kernel
theorem dr_cJx4a65c_grow_d5877_2 : decode cJx4a65c_grow_d5877 2 = .ok (.getfield 48, 3) := by decide +kernel
theorem dr_cJx4a65c_grow_d5877_5 : decode cJx4a65c_grow_d5877 5 = .ok (.iconst 1, 1) := by decide +kernel
theorem dr_cJx4a65c_grow_d5877_6 : decode cJx4a65c_grow_d5877 6 = .ok (.iadd, 1) := by decide +kernel
theorem dr_cJx4a65c_grow_d5877_7 : decode cJx4a65c_grow_d5877 7 = .ok (.invokevirtual 69, 3) := by decide +kernel
theorem wr_10_11 : (Jvm.Cond.methodLink "java/util/ArrayList" (69 : Nat) ({ cls := "java/util/ArrayList", name := "grow", desc := "(I)[Ljava/lang/Object;" } : Jvm.MethodName)) ∈ gw := gw_10 11 rfl rfl
theorem wr_10_14 : (Jvm.Cond.code ({ cls := "java/util/ArrayList", name := "grow", desc := "(I)[Ljava/lang/Object;" } : Jvm.MethodName) prog_43_method_6_code (4 : Nat) (Option.some (Jvm.ClassFile.FieldType.array (Jvm.ClassFile.FieldType.object "java/lang/Object")))) ∈ gw := gw_10 14 rfl rfl
theorem wr_10_13 : (Jvm.Cond.instanceMethod ({ cls := "java/util/ArrayList", name := "grow", desc := "(I)[Ljava/lang/Object;" } : Jvm.MethodName)) ∈ gw := gw_10 13 rfl rfl
theorem wr_p_87 : Cond.selects "java/util/ArrayList" ⟨"java/util/ArrayList", "grow", "(I)[Ljava/lang/Object;"⟩ ⟨"java/util/ArrayList", "grow", "(I)[Ljava/lang/Object;"⟩ ∈ gw := gw_p _ 87 rfl rfl rfl
theorem dr_cJx4a65c_grow_d5877_10 : decode cJx4a65c_grow_d5877 10 = .ok (.areturn, 1) := by decide +kernel
theorem dr_cJx4a65c_add_72be8_6 : decode cJx4a65c_add_72be8 6 = .ok (.aload_n 0, 1) := by decide +kernel
theorem dr_cJx4a65c_add_72be8_7 : decode cJx4a65c_add_72be8 7 = .ok (.invokevirtual 129, 3) := by decide +kernel
theorem wr_10_7 : (Jvm.Cond.methodLink "java/util/ArrayList" (129 : Nat) ({ cls := "java/util/ArrayList", name := "grow", desc := "()[Ljava/lang/Object;" } : Jvm.MethodName)) ∈ gw := gw_10 7 rfl rfl
theorem wr_10_10 : (Jvm.Cond.code ({ cls := "java/util/ArrayList", name := "grow", desc := "()[Ljava/lang/Object;" } : Jvm.MethodName) prog_43_method_7_code (1 : Nat) (Option.some (Jvm.ClassFile.FieldType.array (Jvm.ClassFile.FieldType.object "java/lang/Object")))) ∈ gw := gw_10 10 rfl rfl
theorem wr_10_9 : (Jvm.Cond.instanceMethod ({ cls := "java/util/ArrayList", name := "grow", desc := "()[Ljava/lang/Object;" } : Jvm.MethodName)) ∈ gw := gw_10 9 rfl rfl
theorem wr_p_86 : Cond.selects "java/util/ArrayList" ⟨"java/util/ArrayList", "grow", "()[Ljava/lang/Object;"⟩ ⟨"java/util/ArrayList", "grow", "()[Ljava/lang/Object;"⟩ ∈ gw := gw_p _ 86 rfl rfl rfl
theorem dr_cJx4a65c_add_72be8_10 : decode cJx4a65c_add_72be8 10 = .ok (.astore_n 2, 1) := by decide +kernel
abbrev ky_7_ArrayList_size : gKey := (cJx4a65c_size_8abf5, 1, "java/util/ArrayList", (some FieldType.int), [], "size", fun _ _ => True)
def pp_7_ArrayList_size (D : va_G) (I : FieldType → ClassId) (P1 : List Nat) (F2 : Nat → va_E) (q3 : Nat) (p4 : Int32) (qo5 : Nat) (p6 : Int32) : Option Value → va_W → Nat → Nat → Prop := fun r w dc ds => r = some (.int p6) ∧ w = va_pl P1 F2 ∧ dc ≤ 0 ∧ ds ≤ 0
set_option maxRecDepth 100000 in
set_option maxHeartbeats 4000000 in
theorem cp_7_ArrayList_size (l : Launch) (hl0 : l.stackTraces = false) (D : va_G) (I : FieldType → ClassId) (P1 : List Nat) (F2 : Nat → va_E) (q3 : Nat) (p4 : Int32) (qo5 : Nat) (p6 : Int32) (hmq3 : q3 ∈ P1) (heq3 : F2 q3 = .inr (4, [.int p4, .ref qo5, .int p6])) (bp6 : gB p6 0 16777216) : CtA (gV D I) l yJx4a65c_size_8abf5 cJx4a65c_size_8abf5 1 (some FieldType.int) 0 0 0 0 [.ref q3] (va_pl P1 F2) (pp_7_ArrayList_size D I P1 F2 q3 p4 qo5 p6) gNA := by
  refine CtA_ofF hl0 (by decide +kernel) (Nat.le_of_ble_eq_true rfl) ?_
  have bp4 := gB_any p4
  refine G_aload_n 0 dr_cJx4a65c_size_8abf5_0 rfl ?_
  refine Gp_get 2 hmq3 heq3 dr_cJx4a65c_size_8abf5_1 (gk_Jx4a65c D I) (Nat.le_of_ble_eq_true rfl) wr_7_18 rfl ?_
  exact G_iretA dr_cJx4a65c_size_8abf5_4 rfl (Nat.le_of_ble_eq_true rfl) (Nat.le_of_ble_eq_true rfl) ⟨rfl, rfl, (Nat.le_of_ble_eq_true rfl), (Nat.le_of_ble_eq_true rfl)⟩
abbrev ky_34_Preconditions_checkIndex : gKey := (cJ3_checkIndex_8e157, 3, "jdk/internal/util/Preconditions", (some FieldType.int), [], "checkIndex", fun _ _ => True)
def pp_34_Preconditions_checkIndex (D : va_G) (I : FieldType → ClassId) (P29 : List Nat) (F30 : Nat → va_E) (p31 : Int32) (p32 : Int32) : Option Value → va_W → Nat → Nat → Prop := fun r w dc ds => r = some (.int p31) ∧ w = va_pl P29 F30 ∧ dc ≤ 0 ∧ ds ≤ 0
set_option maxRecDepth 100000 in
set_option maxHeartbeats 4000000 in
theorem cp_34_Preconditions_checkIndex (l : Launch) (hl0 : l.stackTraces = false) (D : va_G) (I : FieldType → ClassId) (P29 : List Nat) (F30 : Nat → va_E) (p31 : Int32) (p32 : Int32) (bp31 : gB p31 0 16777216) (bp32 : gB p32 0 16777216) (x33 : p31.toInt < p32.toInt) : CtA (gV D I) l yJ3_checkIndex_8e157 cJ3_checkIndex_8e157 3 (some FieldType.int) 0 0 0 0 [.int p31, .int p32, .null] (va_pl P29 F30) (pp_34_Preconditions_checkIndex D I P29 F30 p31 p32) gNA := by
  refine CtA_ofF hl0 (by decide +kernel) (Nat.le_of_ble_eq_true rfl) ?_
  refine G_iload_n 0 dr_cJ3_checkIndex_8e157_0 rfl ?_
  refine G_if_lt 9 dr_cJ3_checkIndex_8e157_1 (by decide +kernel) (fun hc => absurd (show False by have := gj_lt hc (show Int32.toInt 0 = 0 by decide); omega) not_false) (fun _ => ?_)
  refine G_iload_n 0 dr_cJ3_checkIndex_8e157_4 rfl ?_
  refine G_iload_n 1 dr_cJ3_checkIndex_8e157_5 rfl ?_
  refine G_icmp_lt 16 dr_cJ3_checkIndex_8e157_6 (by decide +kernel) (fun hc35 => ?_) (fun hc35 => ?_)
  · have r36 : p31.toInt < p32.toInt := gC_lt hc35
    have bp31' : gB p31 0 16777215 := ⟨by omega, by omega⟩
    have bp32' : gB p32 1 16777216 := ⟨by omega, by omega⟩
    refine G_iload_n 0 dr_cJ3_checkIndex_8e157_16 rfl ?_
    exact G_iretA dr_cJ3_checkIndex_8e157_17 rfl (Nat.le_of_ble_eq_true rfl) (Nat.le_of_ble_eq_true rfl) ⟨rfl, rfl, (Nat.le_of_ble_eq_true rfl), (Nat.le_of_ble_eq_true rfl)⟩
  · have r37 : p32.toInt ≤ p31.toInt := gC_nlt hc35
    exact absurd (show False by omega) not_false
abbrev ky_28_Objects_checkIndex : gKey := (cJ15_checkIndex_7cf53, 2, "java/util/Objects", (some FieldType.int), [], "checkIndex", fun _ _ => True)
def pp_28_Objects_checkIndex (D : va_G) (I : FieldType → ClassId) (P23 : List Nat) (F24 : Nat → va_E) (p25 : Int32) (p26 : Int32) : Option Value → va_W → Nat → Nat → Prop := fun r w dc ds => r = some (.int p25) ∧ w = va_pl P23 F24 ∧ dc ≤ 0 ∧ ds ≤ 0
set_option maxRecDepth 100000 in
set_option maxHeartbeats 4000000 in
theorem cp_28_Objects_checkIndex (l : Launch) (hl0 : l.stackTraces = false) (D : va_G) (I : FieldType → ClassId) (P23 : List Nat) (F24 : Nat → va_E) (p25 : Int32) (p26 : Int32) (bp25 : gB p25 0 16777216) (bp26 : gB p26 0 16777216) (x27 : p25.toInt < p26.toInt) : CtA (gV D I) l yJ15_checkIndex_7cf53 cJ15_checkIndex_7cf53 2 (some FieldType.int) 1 22 0 0 [.int p25, .int p26] (va_pl P23 F24) (pp_28_Objects_checkIndex D I P23 F24 p25 p26) gNA := by
  refine CtA_ofF hl0 (by decide +kernel) (Nat.le_of_ble_eq_true rfl) ?_
  refine G_iload_n 0 dr_cJ15_checkIndex_7cf53_0 rfl ?_
  refine G_iload_n 1 dr_cJ15_checkIndex_7cf53_1 rfl ?_
  refine G_null dr_cJ15_checkIndex_7cf53_2 ?_
  refine Gw_callS (As := [.int p25, .int p26, .null]) (gV_ok D I) (cp_34_Preconditions_checkIndex l hl0 D I P23 F24 p25 p26 bp25 bp26 (by omega)) dr_cJ15_checkIndex_7cf53_3 ⟨wr_10_65, wr_1_29, wr_3_85, by decide, rfl, (Nat.le_of_ble_eq_true rfl), (Nat.le_of_ble_eq_true rfl)⟩ wr_3_84 (show 0 + 0 ≤ 0 by first | omega | decide) (show 0 + 0 ≤ 0 by first | omega | decide) (Nat.le_of_ble_eq_true rfl) (fun r41 w42 dc38 ds39 hp40 => ?_) (fun _ _ _ _ _ z => z.elim)
  obtain ⟨rfl, rfl, hdc, hds⟩ := hp40
  change G _ _ _ _ _ _ _ (.int p25 :: _) _ _ _
  refine G_widen (cs' := 0) (sl' := 0) (by omega) (by omega) ?_
  exact G_iretA dr_cJ15_checkIndex_7cf53_6 rfl (Nat.le_of_ble_eq_true rfl) (Nat.le_of_ble_eq_true rfl) ⟨rfl, rfl, (Nat.le_of_ble_eq_true rfl), (Nat.le_of_ble_eq_true rfl)⟩
abbrev ky_61_ArrayList_elementData : gKey := (cJx4a65c_elementData_915e3, 2, "java/util/ArrayList", (some (FieldType.object "java/lang/Object")), [], "elementData", fun _ _ => True)
def pp_61_ArrayList_elementData (D : va_G) (I : FieldType → ClassId) (P48 : List Nat) (F49 : Nat → va_E) (q50 : Nat) (q51 : Nat) (p52 : Int32) (p53 : Int32) (p54 : Int32) (f55 : Nat → Option Nat) (n56 : Nat) (x57 : Nat) : Option Value → va_W → Nat → Nat → Prop := fun r w dc ds => r = some (.ref x57) ∧ w = va_pl P48 F49 ∧ dc ≤ 0 ∧ ds ≤ 0
set_option maxRecDepth 100000 in
set_option maxHeartbeats 4000000 in
theorem cp_61_ArrayList_elementData (l : Launch) (hl0 : l.stackTraces = false) (D : va_G) (I : FieldType → ClassId) (P48 : List Nat) (F49 : Nat → va_E) (q50 : Nat) (q51 : Nat) (p52 : Int32) (p53 : Int32) (p54 : Int32) (f55 : Nat → Option Nat) (n56 : Nat) (x57 : Nat) (hmq50 : q50 ∈ P48) (hmq51 : q51 ∈ P48) (heq50 : F49 q50 = .inr (4, [.int p53, .ref q51, .int p54])) (heq51 : F49 q51 = .inl (I (.object "java/lang/Object"), n56, .inr (.inr (.inr (.inr f55))))) (bp52 : gB p52 0 16777216) (bp54 : gB p54 0 16777216) (x58 : p52.toInt < (n56 : Int)) (x59 : f55 p52.toNatClampNeg = some x57) (x60 : ((n56 : Int) ≤ 16777216)) : CtA (gV D I) l yJx4a65c_elementData_915e3 cJx4a65c_elementData_915e3 2 (some (FieldType.object "java/lang/Object")) 0 0 0 0 [.ref q50, .int p52] (va_pl P48 F49) (pp_61_ArrayList_elementData D I P48 F49 q50 q51 p52 p53 p54 f55 n56 x57) gNA := by
  refine CtA_ofF hl0 (by decide +kernel) (Nat.le_of_ble_eq_true rfl) ?_
  have bp53 := gB_any p53
  refine G_aload_n 0 dr_cJx4a65c_elementData_915e3_0 rfl ?_
  refine Gp_get 1 hmq50 heq50 dr_cJx4a65c_elementData_915e3_1 (gk_Jx4a65c D I) (Nat.le_of_ble_eq_true rfl) wr_7_17 rfl ?_
  refine G_iload_n 1 dr_cJx4a65c_elementData_915e3_4 rfl ?_
  refine Gp_aald 4 hmq51 heq51 dr_cJx4a65c_elementData_915e3_5 rfl rfl (gB_inr (by omega) (by omega)) ?_
  rw [x59]
  change G _ _ _ _ _ _ _ (.ref x57 :: _) _ _ _
  exact G_aretA (FieldType.object "java/lang/Object") dr_cJx4a65c_elementData_915e3_6 rfl (by first | exact Or.inl ⟨_, rfl⟩ | exact Or.inr ⟨_, rfl⟩) (Or.inr ⟨_, rfl⟩) (Nat.le_of_ble_eq_true rfl) (Nat.le_of_ble_eq_true rfl) ⟨rfl, rfl, (Nat.le_of_ble_eq_true rfl), (Nat.le_of_ble_eq_true rfl)⟩
abbrev ky_22_ArrayList_get : gKey := (cJx4a65c_get_915e3, 2, "java/util/ArrayList", (some (FieldType.object "java/lang/Object")), [], "get", fun _ _ => True)
def pp_22_ArrayList_get (D : va_G) (I : FieldType → ClassId) (P8 : List Nat) (F9 : Nat → va_E) (q10 : Nat) (q11 : Nat) (p12 : Int32) (p13 : Int32) (p14 : Int32) (f15 : Nat → Option Nat) (n16 : Nat) (x17 : Nat) : Option Value → va_W → Nat → Nat → Prop := fun r w dc ds => r = some (.ref x17) ∧ w = va_pl P8 F9 ∧ dc ≤ 0 ∧ ds ≤ 0
set_option maxRecDepth 100000 in
set_option maxHeartbeats 4000000 in
theorem cp_22_ArrayList_get (l : Launch) (hl0 : l.stackTraces = false) (D : va_G) (I : FieldType → ClassId) (P8 : List Nat) (F9 : Nat → va_E) (q10 : Nat) (q11 : Nat) (p12 : Int32) (p13 : Int32) (p14 : Int32) (f15 : Nat → Option Nat) (n16 : Nat) (x17 : Nat) (hmq10 : q10 ∈ P8) (hmq11 : q11 ∈ P8) (heq10 : F9 q10 = .inr (4, [.int p13, .ref q11, .int p14])) (heq11 : F9 q11 = .inl (I (.object "java/lang/Object"), n16, .inr (.inr (.inr (.inr f15))))) (bp12 : gB p12 0 16777216) (bp14 : gB p14 0 16777216) (x18 : p12.toInt < p14.toInt) (x19 : p14.toInt ≤ (n16 : Int)) (x20 : f15 p12.toNatClampNeg = some x17) (x21 : ((n16 : Int) ≤ 16777216)) : CtA (gV D I) l yJx4a65c_get_915e3 cJx4a65c_get_915e3 2 (some (FieldType.object "java/lang/Object")) 2 43 0 0 [.ref q10, .int p12] (va_pl P8 F9) (pp_22_ArrayList_get D I P8 F9 q10 q11 p12 p13 p14 f15 n16 x17) gNA := by
  refine CtA_ofF hl0 (by decide +kernel) (Nat.le_of_ble_eq_true rfl) ?_
  have bp13 := gB_any p13
  refine G_iload_n 1 dr_cJx4a65c_get_915e3_0 rfl ?_
  refine G_aload_n 0 dr_cJx4a65c_get_915e3_1 rfl ?_
  refine Gp_get 2 hmq10 heq10 dr_cJx4a65c_get_915e3_2 (gk_Jx4a65c D I) (Nat.le_of_ble_eq_true rfl) wr_7_18 rfl ?_
  refine Gw_callS (As := [.int p12, .int p14]) (gV_ok D I) (cp_28_Objects_checkIndex l hl0 D I P8 F9 p12 p14 bp12 bp14 (by omega)) dr_cJx4a65c_get_915e3_5 ⟨wr_10_62, wr_1_40, wr_10_64, by decide, rfl, (Nat.le_of_ble_eq_true rfl), (Nat.le_of_ble_eq_true rfl)⟩ wr_10_63 (show 0 + 0 ≤ 0 by first | omega | decide) (show 0 + 0 ≤ 0 by first | omega | decide) (Nat.le_of_ble_eq_true rfl) (fun r46 w47 dc43 ds44 hp45 => ?_) (fun _ _ _ _ _ z => z.elim)
  obtain ⟨rfl, rfl, hdc, hds⟩ := hp45
  change G _ _ _ _ _ _ _ (.int p12 :: _) _ _ _
  refine G_widen (cs' := 0) (sl' := 0) (by omega) (by omega) ?_
  refine G_pop dr_cJx4a65c_get_915e3_8 rfl ?_
  refine G_aload_n 0 dr_cJx4a65c_get_915e3_9 rfl ?_
  refine G_iload_n 1 dr_cJx4a65c_get_915e3_10 rfl ?_
  refine Gw_callV (As := [.int p12]) (gV_ok D I) (cp_61_ArrayList_elementData l hl0 D I P8 F9 q10 q11 p12 p13 p14 f15 n16 x17 hmq10 hmq11 heq10 heq11 bp12 bp14 (by omega) (by assumption) (by omega)) dr_cJx4a65c_get_915e3_11 ⟨wr_10_66, wr_1_18, wr_10_69, by decide, rfl, (Nat.le_of_ble_eq_true rfl), (Nat.le_of_ble_eq_true rfl)⟩ wr_10_67 wr_10_68 hmq10 heq10 rfl (show 0 + 0 ≤ 0 by first | omega | decide) (show 0 + 0 ≤ 0 by first | omega | decide) (Nat.le_of_ble_eq_true rfl) (fun r65 w66 dc62 ds63 hp64 => ?_) (fun _ _ _ _ _ z => z.elim)
  obtain ⟨rfl, rfl, hdc, hds⟩ := hp64
  change G _ _ _ _ _ _ _ (.ref x17 :: _) _ _ _
  refine G_widen (cs' := 0) (sl' := 0) (by omega) (by omega) ?_
  exact G_aretA (FieldType.object "java/lang/Object") dr_cJx4a65c_get_915e3_14 rfl (by first | exact Or.inl ⟨_, rfl⟩ | exact Or.inr ⟨_, rfl⟩) (Or.inr ⟨_, rfl⟩) (Nat.le_of_ble_eq_true rfl) (Nat.le_of_ble_eq_true rfl) ⟨rfl, rfl, (Nat.le_of_ble_eq_true rfl), (Nat.le_of_ble_eq_true rfl)⟩
abbrev ky_116_ArrayList_add : gKey := (cJx4a65c_add_72be8, 4, "java/util/ArrayList", none, [], "add", fun _ _ => True)
def pp_116_ArrayList_add (D : va_G) (I : FieldType → ClassId) (P95 : List Nat) (F96 : Nat → va_E) (q97 : Nat) (q98 : Nat) (q99 : Nat) (p100 : Int32) (p101 : Int32) (p102 : Int32) (p103 : Int32) (p104 : Int32) (p105 : Int32) (p106 : Int32) (p107 : Int32) (p108 : Int32) (p109 : Int32) (f110 : Nat → Option Nat) (n111 : Nat) : Option Value → va_W → Nat → Nat → Prop := fun r w dc ds => ∃ (F140 : Nat → va_E) (o137 : Int32) (f138 : Nat → Option Nat), r = none ∧ w = va_pl P95 F140 ∧ rFr [q97, q99] P95 F96 F140 ∧ F140 q97 = .inr (4, [.int p101, .ref q99, .int o137]) ∧ F140 q98 = .inr (20, [.int p103, .int p104, .int p105, .int p106, .int p107, .int p108, .int p109]) ∧ F140 q99 = .inl (I (.object "java/lang/Object"), n111, .inr (.inr (.inr (.inr f138)))) ∧ dc ≤ 0 ∧ ds ≤ 0 ∧ gB o137 1 16777217 ∧ o137.toInt = p102.toInt + 1 ∧ ((∀ j : Nat, (j : Int) < p102.toInt → f138 j = f110 j) ∧ f138 p100.toInt.toNat = some q98) ∧ rSrcX f138 f110 q98
set_option maxRecDepth 100000 in
set_option maxHeartbeats 4000000 in
theorem cp_116_ArrayList_add (l : Launch) (hl0 : l.stackTraces = false) (D : va_G) (I : FieldType → ClassId) (P95 : List Nat) (F96 : Nat → va_E) (q97 : Nat) (q98 : Nat) (q99 : Nat) (p100 : Int32) (p101 : Int32) (p102 : Int32) (p103 : Int32) (p104 : Int32) (p105 : Int32) (p106 : Int32) (p107 : Int32) (p108 : Int32) (p109 : Int32) (f110 : Nat → Option Nat) (n111 : Nat) (hmq97 : q97 ∈ P95) (hmq98 : q98 ∈ P95) (hmq99 : q99 ∈ P95) (heq97 : F96 q97 = .inr (4, [.int p101, .ref q99, .int p102])) (heq98 : F96 q98 = .inr (20, [.int p103, .int p104, .int p105, .int p106, .int p107, .int p108, .int p109])) (heq99 : F96 q99 = .inl (I (.object "java/lang/Object"), n111, .inr (.inr (.inr (.inr f110))))) (bp100 : gB p100 0 16777216) (bp102 : gB p102 0 16777216) (bp103 : gB p103 0 32) (bp104 : gB p104 0 1999) (bp107 : gB p107 0 1999) (bp108 : gB p108 0 1) (bp109 : gB p109 0 1) (x112 : p102.toInt < (n111 : Int)) (x113 : p100.toInt = p102.toInt) (x114 : rEl P95 F96 f110) (x115 : ((n111 : Int) ≤ 16777216)) : CtA (gV D I) l yJx4a65c_add_72be8 cJx4a65c_add_72be8 4 none 0 0 0 0 [.ref q97, .ref q98, .ref q99, .int p100] (va_pl P95 F96) (pp_116_ArrayList_add D I P95 F96 q97 q98 q99 p100 p101 p102 p103 p104 p105 p106 p107 p108 p109 f110 n111) gNA := by
  refine CtA_ofF hl0 (by decide +kernel) (Nat.le_of_ble_eq_true rfl) ?_
  have bp101 := gB_any p101
  have bp105 := gB_any p105
  have bp106 := gB_any p106
  refine G_iload_n 3 dr_cJx4a65c_add_72be8_0 rfl ?_
  refine G_aload_n 2 dr_cJx4a65c_add_72be8_1 rfl ?_
  refine Gp_alen (Int32.ofNat n111) 4 hmq99 heq99 dr_cJx4a65c_add_72be8_2 rfl rfl (G_nam fun z117 hz117 => ?_)
  have ez117 : z117.toInt = (n111 : Nat) := gI_ofM hz117 (by omega)
  have bz117 : gB z117 0 16777216 := ⟨by omega, by omega⟩
  refine G_icmp_ne 11 dr_cJx4a65c_add_72be8_3 (by decide +kernel) (fun hc118 => ?_) (fun hc => absurd (show False by have := gC_eq hc; omega) not_false)
  have r120 : p100.toInt ≠ z117.toInt := gC_ne hc118
  refine G_aload_n 2 dr_cJx4a65c_add_72be8_11 rfl ?_
  refine G_iload_n 3 dr_cJx4a65c_add_72be8_12 rfl ?_
  refine G_aload_n 1 dr_cJx4a65c_add_72be8_13 rfl ?_
  refine Gp_aast 4 hmq99 heq99 dr_cJx4a65c_add_72be8_14 rfl ⟨hmq98, _, _, _, _, _, heq98, rfl, gr_cast 3 rfl⟩ (gB_inr (by omega) (by omega)) (fun F121 e122 n123 => ?_)
  obtain ⟨f124, hf124⟩ : ∃ z, z = va_up f110 p100.toNatClampNeg (some q98) := ⟨_, rfl⟩
  rw [← hf124] at e122
  have he125 : F121 q97 = .inr (4, [.int p101, .ref q99, .int p102]) := (n123 q97 (rn_oa heq97 heq99)).trans heq97
  have he126 : F121 q98 = .inr (20, [.int p103, .int p104, .int p105, .int p106, .int p107, .int p108, .int p109]) := (n123 q98 (rn_oa heq98 heq99)).trans heq98
  have he127 : F121 q99 = .inl (I (.object "java/lang/Object"), n111, .inr (.inr (.inr (.inr f124)))) := e122
  have hfr128 : rFr [q99] P95 F96 F121 := rFr_put (rFr_rf (W := []) (P := P95) (F := F96)) n123
  refine G_aload_n 0 dr_cJx4a65c_add_72be8_15 rfl ?_
  refine G_iload_n 3 dr_cJx4a65c_add_72be8_16 rfl ?_
  refine G_iconst 1 dr_cJx4a65c_add_72be8_17 (by decide +kernel) ?_
  refine G_iadd dr_cJx4a65c_add_72be8_18 (G_nam fun z129 hz129 => ?_)
  have ez129 : z129.toInt = p100.toInt + 1 := by rw [gI_add hz129 bp100 (gBl (show Int32.toInt 1 = 1 by decide)) (by decide) (by decide), show Int32.toInt 1 = 1 from by decide]
  have bz129 : gB z129 1 16777217 := gB_add (gI_add hz129 bp100 (gBl (show Int32.toInt 1 = 1 by decide)) (by decide) (by decide)) bp100 (gBl (show Int32.toInt 1 = 1 by decide)) (by decide) (by decide)
  refine Gp_put 2 hmq97 he125 dr_cJx4a65c_add_72be8_19 (gk_Jx4a65c D I) (Nat.le_of_ble_eq_true rfl) wr_7_18 rfl rfl rfl (Nat.le_of_ble_eq_true rfl) (fun F130 e131 n132 => ?_)
  have he133 : F130 q98 = .inr (20, [.int p103, .int p104, .int p105, .int p106, .int p107, .int p108, .int p109]) := (n132 q98 (rn_oo he126 he125 (by decide))).trans he126
  have he134 : F130 q99 = .inl (I (.object "java/lang/Object"), n111, .inr (.inr (.inr (.inr f124)))) := (n132 q99 (rn_ao he127 he125)).trans he127
  have he135 : F130 q97 = .inr (4, [.int p101, .ref q99, .int z129]) := e131
  have hfr136 : rFr [q97, q99] P95 F96 F130 := rFr_put hfr128 n132
  exact G_vretA dr_cJx4a65c_add_72be8_22 rfl (Nat.le_of_ble_eq_true rfl) (Nat.le_of_ble_eq_true rfl) ⟨F130, z129, f124, rfl, rfl, hfr136, he135, he133, he134, (Nat.le_of_ble_eq_true rfl), (Nat.le_of_ble_eq_true rfl), bz129, (by omega), (rI_add (fun _ _ => rfl) hf124 (by omega) (by omega)), (rSrcX_up hf124 rSrc_rf)⟩
abbrev ky_86_ArrayList_add : gKey := (cJx4a65c_add_9ea2d, 2, "java/util/ArrayList", (some FieldType.boolean), [], "add", fun _ _ => True)
def pp_86_ArrayList_add (D : va_G) (I : FieldType → ClassId) (P67 : List Nat) (F68 : Nat → va_E) (q69 : Nat) (q70 : Nat) (q71 : Nat) (p72 : Int32) (p73 : Int32) (p74 : Int32) (p75 : Int32) (p76 : Int32) (p77 : Int32) (p78 : Int32) (p79 : Int32) (p80 : Int32) (f81 : Nat → Option Nat) (n82 : Nat) : Option Value → va_W → Nat → Nat → Prop := fun r w dc ds => ∃ (F162 : Nat → va_E) (o158 : Int32) (o159 : Int32) (f160 : Nat → Option Nat), r = some (.int 1) ∧ w = va_pl P67 F162 ∧ rFr [q69, q71] P67 F68 F162 ∧ F162 q69 = .inr (4, [.int o158, .ref q71, .int o159]) ∧ F162 q70 = .inr (20, [.int p74, .int p75, .int p76, .int p77, .int p78, .int p79, .int p80]) ∧ F162 q71 = .inl (I (.object "java/lang/Object"), n82, .inr (.inr (.inr (.inr f160)))) ∧ dc ≤ 0 ∧ ds ≤ 0 ∧ gB o159 1 16777217 ∧ o159.toInt = p73.toInt + 1 ∧ ((∀ j : Nat, (j : Int) < p73.toInt → f160 j = f81 j) ∧ f160 p73.toInt.toNat = some q70) ∧ rSrcX f160 f81 q70
set_option maxRecDepth 100000 in
set_option maxHeartbeats 4000000 in
theorem cp_86_ArrayList_add (l : Launch) (hl0 : l.stackTraces = false) (D : va_G) (I : FieldType → ClassId) (P67 : List Nat) (F68 : Nat → va_E) (q69 : Nat) (q70 : Nat) (q71 : Nat) (p72 : Int32) (p73 : Int32) (p74 : Int32) (p75 : Int32) (p76 : Int32) (p77 : Int32) (p78 : Int32) (p79 : Int32) (p80 : Int32) (f81 : Nat → Option Nat) (n82 : Nat) (hmq69 : q69 ∈ P67) (hmq70 : q70 ∈ P67) (hmq71 : q71 ∈ P67) (heq69 : F68 q69 = .inr (4, [.int p72, .ref q71, .int p73])) (heq70 : F68 q70 = .inr (20, [.int p74, .int p75, .int p76, .int p77, .int p78, .int p79, .int p80])) (heq71 : F68 q71 = .inl (I (.object "java/lang/Object"), n82, .inr (.inr (.inr (.inr f81))))) (bp73 : gB p73 0 16777216) (bp74 : gB p74 0 32) (bp75 : gB p75 0 1999) (bp78 : gB p78 0 1999) (bp79 : gB p79 0 1) (bp80 : gB p80 0 1) (x83 : p73.toInt < (n82 : Int)) (x84 : rEl P67 F68 f81) (x85 : ((n82 : Int) ≤ 16777216)) : CtA (gV D I) l yJx4a65c_add_9ea2d cJx4a65c_add_9ea2d 2 (some FieldType.boolean) 1 23 0 0 [.ref q69, .ref q70] (va_pl P67 F68) (pp_86_ArrayList_add D I P67 F68 q69 q70 q71 p72 p73 p74 p75 p76 p77 p78 p79 p80 f81 n82) gNA := by
  refine CtA_ofF hl0 (by decide +kernel) (Nat.le_of_ble_eq_true rfl) ?_
  have bp72 := gB_any p72
  have bp76 := gB_any p76
  have bp77 := gB_any p77
  refine G_aload_n 0 dr_cJx4a65c_add_9ea2d_0 rfl ?_
  refine G_dup dr_cJx4a65c_add_9ea2d_1 rfl ?_
  refine Gp_getS 0 hmq69 heq69 dr_cJx4a65c_add_9ea2d_2 (gk_Jx4a65c D I) (Nat.le_of_ble_eq_true rfl) wr_7_20 wr_7_21 rfl ?_
  refine G_iconst 1 dr_cJx4a65c_add_9ea2d_5 (by decide +kernel) ?_
  refine G_iadd dr_cJx4a65c_add_9ea2d_6 (G_nam fun z87 hz87 => ?_)
  have bz87 : gB z87 (-2147483648) 2147483647 := gB_any z87
  refine Gp_putS 0 hmq69 heq69 dr_cJx4a65c_add_9ea2d_7 (gk_Jx4a65c D I) (Nat.le_of_ble_eq_true rfl) wr_7_20 wr_7_21 rfl rfl rfl (Nat.le_of_ble_eq_true rfl) (fun F88 e89 n90 => ?_)
  have he91 : F88 q70 = .inr (20, [.int p74, .int p75, .int p76, .int p77, .int p78, .int p79, .int p80]) := (n90 q70 (rn_oo heq70 heq69 (by decide))).trans heq70
  have he92 : F88 q71 = .inl (I (.object "java/lang/Object"), n82, .inr (.inr (.inr (.inr f81)))) := (n90 q71 (rn_ao heq71 heq69)).trans heq71
  have he93 : F88 q69 = .inr (4, [.int z87, .ref q71, .int p73]) := e89
  have hfr94 : rFr [q69] P67 F68 F88 := rFr_put (rFr_rf (W := []) (P := P67) (F := F68)) n90
  refine G_aload_n 0 dr_cJx4a65c_add_9ea2d_10 rfl ?_
  refine G_aload_n 1 dr_cJx4a65c_add_9ea2d_11 rfl ?_
  refine G_aload_n 0 dr_cJx4a65c_add_9ea2d_12 rfl ?_
  refine Gp_get 1 hmq69 he93 dr_cJx4a65c_add_9ea2d_13 (gk_Jx4a65c D I) (Nat.le_of_ble_eq_true rfl) wr_7_17 rfl ?_
  refine G_aload_n 0 dr_cJx4a65c_add_9ea2d_16 rfl ?_
  refine Gp_get 2 hmq69 he93 dr_cJx4a65c_add_9ea2d_17 (gk_Jx4a65c D I) (Nat.le_of_ble_eq_true rfl) wr_7_18 rfl ?_
  refine Gw_callV (As := [.ref q70, .ref q71, .int p73]) (gV_ok D I) (cp_116_ArrayList_add l hl0 D I P67 F88 q69 q70 q71 p73 z87 p73 p74 p75 p76 p77 p78 p79 p80 f81 n82 hmq69 hmq70 hmq71 he93 he91 he92 bp73 bp73 bp74 bp75 bp78 bp79 bp80 (by omega) (by omega) (rEl_frG (rEl_src x84 rSrc_rf) (rSub_rf (P := P67)) hfr94 (rNg_c (rNg_o heq69 (by decide) (by decide)) rNg_n)) (by omega)) dr_cJx4a65c_add_9ea2d_20 ⟨wr_10_3, wr_1_18, wr_10_6, by decide, rfl, (Nat.le_of_ble_eq_true rfl), (Nat.le_of_ble_eq_true rfl)⟩ wr_10_5 wr_p_85 hmq69 he93 rfl (show 0 + 0 ≤ 0 by first | omega | decide) (show 0 + 0 ≤ 0 by first | omega | decide) (Nat.le_of_ble_eq_true rfl) (fun r144 w145 dc141 ds142 hp143 => ?_) (fun _ _ _ _ _ z => z.elim)
  obtain ⟨F151, o146, f147, rfl, rfl, hfr153, he154, he155, he156, hdc, hds, bo146, x148, x149, x150⟩ := hp143
  have hfr157 : rFr [q69, q71] P67 F68 F151 := rFr_call (rSub_rf (P := P67)) hfr94 hfr153 (fun b hb hn => ⟨(nm_c (fun e => hn (e ▸ List.mem_cons_self)) nm_n), (nm_c (fun e => hn (e ▸ List.mem_cons_self)) (nm_c (fun e => hn (e ▸ (List.mem_cons_of_mem _ List.mem_cons_self))) nm_n))⟩)
  change G _ _ _ _ _ _ _ _ _ _ _
  refine G_widen (cs' := 0) (sl' := 0) (by omega) (by omega) ?_
  refine G_iconst 1 dr_cJx4a65c_add_9ea2d_23 (by decide +kernel) ?_
  exact G_zretA FieldType.boolean dr_cJx4a65c_add_9ea2d_24 rfl rfl (Nat.le_of_ble_eq_true rfl) (Nat.le_of_ble_eq_true rfl) ⟨F151, z87, o146, f147, rfl, rfl, hfr157, he154, he155, he156, (Nat.le_of_ble_eq_true rfl), (Nat.le_of_ble_eq_true rfl), bo146, (by omega), (by assumption), (by assumption)⟩
abbrev ky_206_ArrayList_add : gKey := (cJx4a65c_add_72be8, 4, "java/util/ArrayList", none, [], "add", fun _ _ => True)
def pp_206_ArrayList_add (D : va_G) (I : FieldType → ClassId) (P188 : List Nat) (F189 : Nat → va_E) (q190 : Nat) (q191 : Nat) (q192 : Nat) (p193 : Int32) (p194 : Int32) (p195 : Int32) (qo196 : Nat) (qo197 : Nat) (p198 : Int32) (p199 : Int32) (f200 : Nat → Option Nat) (n201 : Nat) : Option Value → va_W → Nat → Nat → Prop := fun r w dc ds => ∃ (F230 : Nat → va_E) (o227 : Int32) (f228 : Nat → Option Nat), r = none ∧ w = va_pl P188 F230 ∧ rFr [q190, q192] P188 F189 F230 ∧ F230 q190 = .inr (4, [.int p194, .ref q192, .int o227]) ∧ F230 q191 = .inr (17, [.ref qo196, .ref qo197, .int p198, .int p199]) ∧ F230 q192 = .inl (I (.object "java/lang/Object"), n201, .inr (.inr (.inr (.inr f228)))) ∧ dc ≤ 0 ∧ ds ≤ 0 ∧ gB o227 1 16777217 ∧ o227.toInt = p195.toInt + 1 ∧ ((∀ j : Nat, (j : Int) < p195.toInt → f228 j = f200 j) ∧ f228 p193.toInt.toNat = some q191) ∧ rSrcX f228 f200 q191
set_option maxRecDepth 100000 in
set_option maxHeartbeats 4000000 in
theorem cp_206_ArrayList_add (l : Launch) (hl0 : l.stackTraces = false) (D : va_G) (I : FieldType → ClassId) (P188 : List Nat) (F189 : Nat → va_E) (q190 : Nat) (q191 : Nat) (q192 : Nat) (p193 : Int32) (p194 : Int32) (p195 : Int32) (qo196 : Nat) (qo197 : Nat) (p198 : Int32) (p199 : Int32) (f200 : Nat → Option Nat) (n201 : Nat) (hmq190 : q190 ∈ P188) (hmq191 : q191 ∈ P188) (hmq192 : q192 ∈ P188) (heq190 : F189 q190 = .inr (4, [.int p194, .ref q192, .int p195])) (heq191 : F189 q191 = .inr (17, [.ref qo196, .ref qo197, .int p198, .int p199])) (heq192 : F189 q192 = .inl (I (.object "java/lang/Object"), n201, .inr (.inr (.inr (.inr f200))))) (bp193 : gB p193 0 16777216) (bp195 : gB p195 0 16777216) (bp198 : gB p198 0 39) (bp199 : gB p199 0 39) (x202 : p195.toInt < (n201 : Int)) (x203 : p193.toInt = p195.toInt) (x204 : rEl P188 F189 f200) (x205 : ((n201 : Int) ≤ 16777216)) : CtA (gV D I) l yJx4a65c_add_72be8 cJx4a65c_add_72be8 4 none 0 0 0 0 [.ref q190, .ref q191, .ref q192, .int p193] (va_pl P188 F189) (pp_206_ArrayList_add D I P188 F189 q190 q191 q192 p193 p194 p195 qo196 qo197 p198 p199 f200 n201) gNA := by
  refine CtA_ofF hl0 (by decide +kernel) (Nat.le_of_ble_eq_true rfl) ?_
  have bp194 := gB_any p194
  refine G_iload_n 3 dr_cJx4a65c_add_72be8_0 rfl ?_
  refine G_aload_n 2 dr_cJx4a65c_add_72be8_1 rfl ?_
  refine Gp_alen (Int32.ofNat n201) 4 hmq192 heq192 dr_cJx4a65c_add_72be8_2 rfl rfl (G_nam fun z207 hz207 => ?_)
  have ez207 : z207.toInt = (n201 : Nat) := gI_ofM hz207 (by omega)
  have bz207 : gB z207 0 16777216 := ⟨by omega, by omega⟩
  refine G_icmp_ne 11 dr_cJx4a65c_add_72be8_3 (by decide +kernel) (fun hc208 => ?_) (fun hc => absurd (show False by have := gC_eq hc; omega) not_false)
  have r210 : p193.toInt ≠ z207.toInt := gC_ne hc208
  refine G_aload_n 2 dr_cJx4a65c_add_72be8_11 rfl ?_
  refine G_iload_n 3 dr_cJx4a65c_add_72be8_12 rfl ?_
  refine G_aload_n 1 dr_cJx4a65c_add_72be8_13 rfl ?_
  refine Gp_aast 4 hmq192 heq192 dr_cJx4a65c_add_72be8_14 rfl ⟨hmq191, _, _, _, _, _, heq191, rfl, gr_cast 2 rfl⟩ (gB_inr (by omega) (by omega)) (fun F211 e212 n213 => ?_)
  obtain ⟨f214, hf214⟩ : ∃ z, z = va_up f200 p193.toNatClampNeg (some q191) := ⟨_, rfl⟩
  rw [← hf214] at e212
  have he215 : F211 q190 = .inr (4, [.int p194, .ref q192, .int p195]) := (n213 q190 (rn_oa heq190 heq192)).trans heq190
  have he216 : F211 q191 = .inr (17, [.ref qo196, .ref qo197, .int p198, .int p199]) := (n213 q191 (rn_oa heq191 heq192)).trans heq191
  have he217 : F211 q192 = .inl (I (.object "java/lang/Object"), n201, .inr (.inr (.inr (.inr f214)))) := e212
  have hfr218 : rFr [q192] P188 F189 F211 := rFr_put (rFr_rf (W := []) (P := P188) (F := F189)) n213
  refine G_aload_n 0 dr_cJx4a65c_add_72be8_15 rfl ?_
  refine G_iload_n 3 dr_cJx4a65c_add_72be8_16 rfl ?_
  refine G_iconst 1 dr_cJx4a65c_add_72be8_17 (by decide +kernel) ?_
  refine G_iadd dr_cJx4a65c_add_72be8_18 (G_nam fun z219 hz219 => ?_)
  have ez219 : z219.toInt = p193.toInt + 1 := by rw [gI_add hz219 bp193 (gBl (show Int32.toInt 1 = 1 by decide)) (by decide) (by decide), show Int32.toInt 1 = 1 from by decide]
  have bz219 : gB z219 1 16777217 := gB_add (gI_add hz219 bp193 (gBl (show Int32.toInt 1 = 1 by decide)) (by decide) (by decide)) bp193 (gBl (show Int32.toInt 1 = 1 by decide)) (by decide) (by decide)
  refine Gp_put 2 hmq190 he215 dr_cJx4a65c_add_72be8_19 (gk_Jx4a65c D I) (Nat.le_of_ble_eq_true rfl) wr_7_18 rfl rfl rfl (Nat.le_of_ble_eq_true rfl) (fun F220 e221 n222 => ?_)
  have he223 : F220 q191 = .inr (17, [.ref qo196, .ref qo197, .int p198, .int p199]) := (n222 q191 (rn_oo he216 he215 (by decide))).trans he216
  have he224 : F220 q192 = .inl (I (.object "java/lang/Object"), n201, .inr (.inr (.inr (.inr f214)))) := (n222 q192 (rn_ao he217 he215)).trans he217
  have he225 : F220 q190 = .inr (4, [.int p194, .ref q192, .int z219]) := e221
  have hfr226 : rFr [q190, q192] P188 F189 F220 := rFr_put hfr218 n222
  exact G_vretA dr_cJx4a65c_add_72be8_22 rfl (Nat.le_of_ble_eq_true rfl) (Nat.le_of_ble_eq_true rfl) ⟨F220, z219, f214, rfl, rfl, hfr226, he225, he223, he224, (Nat.le_of_ble_eq_true rfl), (Nat.le_of_ble_eq_true rfl), bz219, (by omega), (rI_add (fun _ _ => rfl) hf214 (by omega) (by omega)), (rSrcX_up hf214 rSrc_rf)⟩
abbrev ky_179_ArrayList_add : gKey := (cJx4a65c_add_9ea2d, 2, "java/util/ArrayList", (some FieldType.boolean), [], "add", fun _ _ => True)
def pp_179_ArrayList_add (D : va_G) (I : FieldType → ClassId) (P163 : List Nat) (F164 : Nat → va_E) (q165 : Nat) (q166 : Nat) (q167 : Nat) (p168 : Int32) (p169 : Int32) (qo170 : Nat) (qo171 : Nat) (p172 : Int32) (p173 : Int32) (f174 : Nat → Option Nat) (n175 : Nat) : Option Value → va_W → Nat → Nat → Prop := fun r w dc ds => ∃ (F252 : Nat → va_E) (o248 : Int32) (o249 : Int32) (f250 : Nat → Option Nat), r = some (.int 1) ∧ w = va_pl P163 F252 ∧ rFr [q165, q167] P163 F164 F252 ∧ F252 q165 = .inr (4, [.int o248, .ref q167, .int o249]) ∧ F252 q166 = .inr (17, [.ref qo170, .ref qo171, .int p172, .int p173]) ∧ F252 q167 = .inl (I (.object "java/lang/Object"), n175, .inr (.inr (.inr (.inr f250)))) ∧ dc ≤ 0 ∧ ds ≤ 0 ∧ gB o249 1 16777217 ∧ o249.toInt = p169.toInt + 1 ∧ ((∀ j : Nat, (j : Int) < p169.toInt → f250 j = f174 j) ∧ f250 p169.toInt.toNat = some q166) ∧ rSrcX f250 f174 q166
set_option maxRecDepth 100000 in
set_option maxHeartbeats 4000000 in
theorem cp_179_ArrayList_add (l : Launch) (hl0 : l.stackTraces = false) (D : va_G) (I : FieldType → ClassId) (P163 : List Nat) (F164 : Nat → va_E) (q165 : Nat) (q166 : Nat) (q167 : Nat) (p168 : Int32) (p169 : Int32) (qo170 : Nat) (qo171 : Nat) (p172 : Int32) (p173 : Int32) (f174 : Nat → Option Nat) (n175 : Nat) (hmq165 : q165 ∈ P163) (hmq166 : q166 ∈ P163) (hmq167 : q167 ∈ P163) (heq165 : F164 q165 = .inr (4, [.int p168, .ref q167, .int p169])) (heq166 : F164 q166 = .inr (17, [.ref qo170, .ref qo171, .int p172, .int p173])) (heq167 : F164 q167 = .inl (I (.object "java/lang/Object"), n175, .inr (.inr (.inr (.inr f174))))) (bp169 : gB p169 0 16777216) (bp172 : gB p172 0 39) (bp173 : gB p173 0 39) (x176 : p169.toInt < (n175 : Int)) (x177 : rEl P163 F164 f174) (x178 : ((n175 : Int) ≤ 16777216)) : CtA (gV D I) l yJx4a65c_add_9ea2d cJx4a65c_add_9ea2d 2 (some FieldType.boolean) 1 23 0 0 [.ref q165, .ref q166] (va_pl P163 F164) (pp_179_ArrayList_add D I P163 F164 q165 q166 q167 p168 p169 qo170 qo171 p172 p173 f174 n175) gNA := by
  refine CtA_ofF hl0 (by decide +kernel) (Nat.le_of_ble_eq_true rfl) ?_
  have bp168 := gB_any p168
  refine G_aload_n 0 dr_cJx4a65c_add_9ea2d_0 rfl ?_
  refine G_dup dr_cJx4a65c_add_9ea2d_1 rfl ?_
  refine Gp_getS 0 hmq165 heq165 dr_cJx4a65c_add_9ea2d_2 (gk_Jx4a65c D I) (Nat.le_of_ble_eq_true rfl) wr_7_20 wr_7_21 rfl ?_
  refine G_iconst 1 dr_cJx4a65c_add_9ea2d_5 (by decide +kernel) ?_
  refine G_iadd dr_cJx4a65c_add_9ea2d_6 (G_nam fun z180 hz180 => ?_)
  have bz180 : gB z180 (-2147483648) 2147483647 := gB_any z180
  refine Gp_putS 0 hmq165 heq165 dr_cJx4a65c_add_9ea2d_7 (gk_Jx4a65c D I) (Nat.le_of_ble_eq_true rfl) wr_7_20 wr_7_21 rfl rfl rfl (Nat.le_of_ble_eq_true rfl) (fun F181 e182 n183 => ?_)
  have he184 : F181 q166 = .inr (17, [.ref qo170, .ref qo171, .int p172, .int p173]) := (n183 q166 (rn_oo heq166 heq165 (by decide))).trans heq166
  have he185 : F181 q167 = .inl (I (.object "java/lang/Object"), n175, .inr (.inr (.inr (.inr f174)))) := (n183 q167 (rn_ao heq167 heq165)).trans heq167
  have he186 : F181 q165 = .inr (4, [.int z180, .ref q167, .int p169]) := e182
  have hfr187 : rFr [q165] P163 F164 F181 := rFr_put (rFr_rf (W := []) (P := P163) (F := F164)) n183
  refine G_aload_n 0 dr_cJx4a65c_add_9ea2d_10 rfl ?_
  refine G_aload_n 1 dr_cJx4a65c_add_9ea2d_11 rfl ?_
  refine G_aload_n 0 dr_cJx4a65c_add_9ea2d_12 rfl ?_
  refine Gp_get 1 hmq165 he186 dr_cJx4a65c_add_9ea2d_13 (gk_Jx4a65c D I) (Nat.le_of_ble_eq_true rfl) wr_7_17 rfl ?_
  refine G_aload_n 0 dr_cJx4a65c_add_9ea2d_16 rfl ?_
  refine Gp_get 2 hmq165 he186 dr_cJx4a65c_add_9ea2d_17 (gk_Jx4a65c D I) (Nat.le_of_ble_eq_true rfl) wr_7_18 rfl ?_
  refine Gw_callV (As := [.ref q166, .ref q167, .int p169]) (gV_ok D I) (cp_206_ArrayList_add l hl0 D I P163 F181 q165 q166 q167 p169 z180 p169 qo170 qo171 p172 p173 f174 n175 hmq165 hmq166 hmq167 he186 he184 he185 bp169 bp169 bp172 bp173 (by omega) (by omega) (rEl_frG (rEl_src x177 rSrc_rf) (rSub_rf (P := P163)) hfr187 (rNg_c (rNg_o heq165 (by decide) (by decide)) rNg_n)) (by omega)) dr_cJx4a65c_add_9ea2d_20 ⟨wr_10_3, wr_1_18, wr_10_6, by decide, rfl, (Nat.le_of_ble_eq_true rfl), (Nat.le_of_ble_eq_true rfl)⟩ wr_10_5 wr_p_85 hmq165 he186 rfl (show 0 + 0 ≤ 0 by first | omega | decide) (show 0 + 0 ≤ 0 by first | omega | decide) (Nat.le_of_ble_eq_true rfl) (fun r234 w235 dc231 ds232 hp233 => ?_) (fun _ _ _ _ _ z => z.elim)
  obtain ⟨F241, o236, f237, rfl, rfl, hfr243, he244, he245, he246, hdc, hds, bo236, x238, x239, x240⟩ := hp233
  have hfr247 : rFr [q165, q167] P163 F164 F241 := rFr_call (rSub_rf (P := P163)) hfr187 hfr243 (fun b hb hn => ⟨(nm_c (fun e => hn (e ▸ List.mem_cons_self)) nm_n), (nm_c (fun e => hn (e ▸ List.mem_cons_self)) (nm_c (fun e => hn (e ▸ (List.mem_cons_of_mem _ List.mem_cons_self))) nm_n))⟩)
  change G _ _ _ _ _ _ _ _ _ _ _
  refine G_widen (cs' := 0) (sl' := 0) (by omega) (by omega) ?_
  refine G_iconst 1 dr_cJx4a65c_add_9ea2d_23 (by decide +kernel) ?_
  exact G_zretA FieldType.boolean dr_cJx4a65c_add_9ea2d_24 rfl rfl (Nat.le_of_ble_eq_true rfl) (Nat.le_of_ble_eq_true rfl) ⟨F241, z180, o236, f237, rfl, rfl, hfr247, he244, he245, he246, (Nat.le_of_ble_eq_true rfl), (Nat.le_of_ble_eq_true rfl), bo236, (by omega), (by assumption), (by assumption)⟩
abbrev ky_353_ArraysSupport_newLength : gKey := (cJ8_newLength_cabcc, 4, "jdk/internal/util/ArraysSupport", (some FieldType.int), [], "newLength", fun _ _ => True)
def pp_353_ArraysSupport_newLength (D : va_G) (I : FieldType → ClassId) (P348 : List Nat) (F349 : Nat → va_E) (p350 : Int32) (p351 : Int32) (p352 : Int32) : Option Value → va_W → Nat → Nat → Prop := fun r w dc ds => ∃ (o356 : Int32), r = some (.int o356) ∧ w = va_pl P348 F349 ∧ dc ≤ 0 ∧ ds ≤ 0 ∧ gB o356 1 33554432 ∧ (p350.toInt + p351.toInt ≤ o356.toInt ∧ p350.toInt + p352.toInt ≤ o356.toInt ∧ (o356.toInt = p350.toInt + p351.toInt ∨ o356.toInt = p350.toInt + p352.toInt))
set_option maxRecDepth 100000 in
set_option maxHeartbeats 4000000 in
theorem cp_353_ArraysSupport_newLength (l : Launch) (hl0 : l.stackTraces = false) (D : va_G) (I : FieldType → ClassId) (P348 : List Nat) (F349 : Nat → va_E) (p350 : Int32) (p351 : Int32) (p352 : Int32) (bp350 : gB p350 0 16777216) (bp351 : gB p351 1 16777216) (bp352 : gB p352 0 16777216) : CtA (gV D I) l yJ8_newLength_cabcc cJ8_newLength_cabcc 4 (some FieldType.int) 1 14 0 0 [.int p350, .int p351, .int p352] (va_pl P348 F349) (pp_353_ArraysSupport_newLength D I P348 F349 p350 p351 p352) gNA := by
  refine CtA_ofF hl0 (by decide +kernel) (Nat.le_of_ble_eq_true rfl) ?_
  refine G_iload_n 0 dr_cJ8_newLength_cabcc_0 rfl ?_
  refine G_iload_n 1 dr_cJ8_newLength_cabcc_1 rfl ?_
  refine G_iload_n 2 dr_cJ8_newLength_cabcc_2 rfl ?_
  refine G_mmax dr_cJ8_newLength_cabcc_3 wr_8_11 wr_1_140 wr_1_6 wr_1_141 (Nat.le_of_ble_eq_true rfl) (Nat.le_of_ble_eq_true rfl) (show 0 ≤ 0 by first | omega | decide) (show 0 ≤ 0 by first | omega | decide) (G_nam fun z354 hz354 => ?_)
  have ez354 : p351.toInt ≤ z354.toInt ∧ p352.toInt ≤ z354.toInt ∧ (z354.toInt = p351.toInt ∨ z354.toInt = p352.toInt) := by have := gI_max hz354; omega
  have bz354 : gB z354 1 16777216 := ⟨by omega, by omega⟩
  refine G_iadd dr_cJ8_newLength_cabcc_6 (G_nam fun z355 hz355 => ?_)
  have ez355 : z355.toInt = p350.toInt + z354.toInt := by rw [gI_add hz355 bp350 bz354 (by decide) (by decide)]
  have bz355 : gB z355 1 33554432 := gB_add (gI_add hz355 bp350 bz354 (by decide) (by decide)) bp350 bz354 (by decide) (by decide)
  refine G_istore_n (L' := [(3, .int z355), (0, .int p350), (1, .int p351), (2, .int p352)]) dr_cJ8_newLength_cabcc_7 (Nat.le_of_ble_eq_true rfl) rfl ?_
  refine G_iconst 0 dr_cJ8_newLength_cabcc_8 (by decide +kernel) ?_
  refine G_iload_n 0 dr_cJ8_newLength_cabcc_9 rfl ?_
  refine G_icmp_ge 21 dr_cJ8_newLength_cabcc_10 (by decide +kernel) (fun hc => absurd (show False by have := gj_le hc (show Int32.toInt 0 = 0 by decide); omega) not_false) (fun _ => ?_)
  refine G_iload_n 0 dr_cJ8_newLength_cabcc_13 rfl ?_
  refine G_ldc 2147483639 dr_cJ8_newLength_cabcc_14 wr_8_12 ?_
  refine G_icmp_gt 21 dr_cJ8_newLength_cabcc_16 (by decide +kernel) (fun hc => absurd (show False by have := gj_ltL hc (show Int32.toInt 2147483639 = 2147483639 by decide); omega) not_false) (fun _ => ?_)
  refine G_iload_n 0 dr_cJ8_newLength_cabcc_19 rfl ?_
  exact G_iretA dr_cJ8_newLength_cabcc_20 rfl (Nat.le_of_ble_eq_true rfl) (Nat.le_of_ble_eq_true rfl) ⟨z355, rfl, rfl, (Nat.le_of_ble_eq_true rfl), (Nat.le_of_ble_eq_true rfl), bz355, (by omega)⟩
abbrev ky_383_Arrays_copyOf : gKey := (cJ7_copyOf_6403c, 4, "java/util/Arrays", (some (FieldType.array (FieldType.object "java/lang/Object"))), [], "copyOf", fun _ _ => True)
def pp_383_Arrays_copyOf (D : va_G) (I : FieldType → ClassId) (P374 : List Nat) (F375 : Nat → va_E) (q376 : Nat) (p377 : Int32) (f378 : Nat → Option Nat) (n379 : Nat) : Option Value → va_W → Nat → Nat → Prop := fun r w dc ds => ∃ (P409 : List Nat) (F410 : Nat → va_E) (q407 : Nat) (f408 : Nat → Option Nat), r = some (.ref q407) ∧ w = va_pl P409 F410 ∧ rSub P374 P409 ∧ rFr [] P374 F375 F410 ∧ F410 q376 = .inl (I (.object "java/lang/Object"), n379, .inr (.inr (.inr (.inr f378)))) ∧ F410 q407 = .inl (I (.object "java/lang/Object"), p377.toInt.toNat, .inr (.inr (.inr (.inr f408)))) ∧ q407 ∈ P409 ∧ q407 ∉ P374 ∧ dc ≤ 1 ∧ ds ≤ p377.toInt.toNat ∧ (∀ j : Nat, (j : Int) < (n379 : Int) → f408 j = f378 j) ∧ rSrc f408 f378
set_option maxRecDepth 100000 in
set_option maxHeartbeats 4000000 in
theorem cp_383_Arrays_copyOf (l : Launch) (hl0 : l.stackTraces = false) (D : va_G) (I : FieldType → ClassId) (P374 : List Nat) (F375 : Nat → va_E) (q376 : Nat) (p377 : Int32) (f378 : Nat → Option Nat) (n379 : Nat) (hmq376 : q376 ∈ P374) (heq376 : F375 q376 = .inl (I (.object "java/lang/Object"), n379, .inr (.inr (.inr (.inr f378))))) (bp377 : gB p377 0 16777216) (x380 : (n379 : Int) ≤ p377.toInt) (x381 : rEl P374 F375 f378) (x382 : ((n379 : Int) ≤ 16777216)) : CtA (gV D I) l yJ7_copyOf_6403c cJ7_copyOf_6403c 4 (some (FieldType.array (FieldType.object "java/lang/Object"))) 1 18 1 p377.toInt.toNat [.ref q376, .int p377, .ref (D.2 1002 0)] (va_pl P374 F375) (pp_383_Arrays_copyOf D I P374 F375 q376 p377 f378 n379) gNA := by
  refine CtA_ofF hl0 (by decide +kernel) (Nat.le_of_ble_eq_true rfl) ?_
  refine G_aload_n 2 dr_cJ7_copyOf_6403c_0 rfl ?_
  refine G_ldcM dr_cJ7_copyOf_6403c_1 wr_10_53 (fun A s H h => (gr_mi A s H h).1) ?_
  refine G_acmp_ne 13 dr_cJ7_copyOf_6403c_3 (by decide +kernel) (fun hc => absurd rfl hc) (fun _ => ?_)
  refine G_iload_n 1 dr_cJ7_copyOf_6403c_6 rfl ?_
  refine Gp_newq (M := p377.toInt.toNat) 4 dr_cJ7_copyOf_6403c_7 wr_10_55 gr_ao rfl (g_n0 (by omega)) rfl (show p377.toInt.toNat * 4 ≤ 536870912 by omega) (show 0 + 1 ≤ 1 by first | omega | decide) (show 0 + p377.toInt.toNat ≤ p377.toInt.toNat by first | omega | decide) (fun q384 P385 F386 hq387 hP388 e389 n390 => ?_)
  refine G_widen (cs' := 1) (sl' := p377.toInt.toNat) (by omega) (by omega) ?_
  have he391 : F386 q376 = .inl (I (.object "java/lang/Object"), n379, .inr (.inr (.inr (.inr f378)))) := (n390 q376 (fun h => hq387 (h ▸ hmq376))).trans heq376
  have he392 : F386 q384 = .inl (I (.object "java/lang/Object"), p377.toInt.toNat, .inr (.inr (.inr (.inr (fun _ => none))))) := e389
  have hm393 : q376 ∈ P385 := (hP388 q376).mpr (Or.inl hmq376)
  have hm394 : q384 ∈ P385 := (hP388 q384).mpr (Or.inr rfl)
  have hq395 : q384 ∉ P374 := fun z => hq387 ((rSub_rf (P := P374)) q384 z)
  have hfr396 : rFr [] P374 F375 F386 := rFr_new (rSub_rf (P := P374)) hq387 (rFr_rf (W := []) (P := P374) (F := F375)) n390
  have hsb397 : rSub P374 P385 := rSub_new (rSub_rf (P := P374)) hP388
  refine G_goto 24 dr_cJ7_copyOf_6403c_10 (by decide +kernel) ?_
  refine G_astore_n (L' := [(3, .ref q384), (0, .ref q376), (1, .int p377), (2, .ref (D.2 1002 0))]) dr_cJ7_copyOf_6403c_24 (Nat.le_of_ble_eq_true rfl) rfl ?_
  refine G_aload_n 1 dr_cJ7_copyOf_6403c_25 rfl ?_
  refine G_iconst 0 dr_cJ7_copyOf_6403c_26 (by decide +kernel) ?_
  refine G_aload_n 0 dr_cJ7_copyOf_6403c_27 rfl ?_
  refine G_iconst 0 dr_cJ7_copyOf_6403c_28 (by decide +kernel) ?_
  refine G_aload_n 1 dr_cJ7_copyOf_6403c_29 rfl ?_
  refine Gp_alen (Int32.ofNat n379) 4 hm393 he391 dr_cJ7_copyOf_6403c_30 rfl rfl (G_nam fun z398 hz398 => ?_)
  have ez398 : z398.toInt = (n379 : Nat) := gI_ofM hz398 (by omega)
  have bz398 : gB z398 0 16777216 := ⟨by omega, by omega⟩
  refine G_iload_n 2 dr_cJ7_copyOf_6403c_31 rfl ?_
  refine G_mmin dr_cJ7_copyOf_6403c_32 wr_8_27 wr_3_227 wr_1_6 wr_3_228 (Nat.le_of_ble_eq_true rfl) (Nat.le_of_ble_eq_true rfl) (show 1 ≤ 1 by first | omega | decide) (show p377.toInt.toNat ≤ p377.toInt.toNat by first | omega | decide) (G_nam fun z399 hz399 => ?_)
  have ez399 : z398.toInt ≥ z399.toInt ∧ p377.toInt ≥ z399.toInt ∧ (z399.toInt = z398.toInt ∨ z399.toInt = p377.toInt) := by have := gI_min hz399; omega
  have bz399 : gB z399 0 16777216 := ⟨by omega, by omega⟩
  refine Gp_copyq 4 hm393 hm394 he391 he392 dr_cJ7_copyOf_6403c_35 wr_8_28 wr_5_113 wr_5_112 wr_1_34 rfl (by decide) (by decide) (by omega) (by have qa0 : Int32.toInt 0 = 0 := (by decide); omega) (by have qa0 : Int32.toInt 0 = 0 := (by decide); omega) (fun j _ w hw => rEl_ob (rEl_frG (rEl_src x381 rSrc_rf) hsb397 hfr396 rNg_n) hw) (Nat.le_of_ble_eq_true rfl) (Nat.le_of_ble_eq_true rfl) (fun F400 e401 n402 => ?_)
  obtain ⟨f403, hf403⟩ : ∃ z, z = va_cpy f378 (fun _ => none) (0 : Int32).toNatClampNeg (0 : Int32).toNatClampNeg z399.toNatClampNeg := ⟨_, rfl⟩
  rw [← hf403] at e401
  have he404 : F400 q376 = .inl (I (.object "java/lang/Object"), n379, .inr (.inr (.inr (.inr f378)))) := (n402 q376 (fun h => hq395 (h ▸ hmq376))).trans he391
  have he405 : F400 q384 = .inl (I (.object "java/lang/Object"), p377.toInt.toNat, .inr (.inr (.inr (.inr f403)))) := e401
  have hfr406 : rFr [] P374 F375 F400 := rFr_newp hq395 hfr396 n402
  refine G_aload_n 0 dr_cJ7_copyOf_6403c_38 rfl ?_
  exact G_aretA (FieldType.array (FieldType.object "java/lang/Object")) dr_cJ7_copyOf_6403c_39 rfl (by first | exact Or.inl ⟨_, rfl⟩ | exact Or.inr ⟨_, rfl⟩) (Or.inr ⟨_, rfl⟩) (Nat.le_of_ble_eq_true rfl) (show p377.toInt.toNat ≤ p377.toInt.toNat by omega) ⟨P385, F400, q384, f403, rfl, rfl, hsb397, hfr406, he404, he405, hm394, hq395, (Nat.le_of_ble_eq_true rfl), (by omega), (rC_cpy0 hf403 (by omega)), (rSrc_cpy hf403 rSrc_rf rSrc_none)⟩
abbrev ky_373_Arrays_copyOf : gKey := (cJ7_copyOf_1904c, 2, "java/util/Arrays", (some (FieldType.array (FieldType.object "java/lang/Object"))), [], "copyOf", fun _ _ => True)
def pp_373_Arrays_copyOf (D : va_G) (I : FieldType → ClassId) (P364 : List Nat) (F365 : Nat → va_E) (q366 : Nat) (p367 : Int32) (f368 : Nat → Option Nat) (n369 : Nat) : Option Value → va_W → Nat → Nat → Prop := fun r w dc ds => ∃ (P434 : List Nat) (F435 : Nat → va_E) (q432 : Nat) (f433 : Nat → Option Nat), r = some (.ref q432) ∧ w = va_pl P434 F435 ∧ rSub P364 P434 ∧ rFr [] P364 F365 F435 ∧ F435 q366 = .inl (I (.object "java/lang/Object"), n369, .inr (.inr (.inr (.inr f368)))) ∧ F435 q432 = .inl (I (.object "java/lang/Object"), p367.toInt.toNat, .inr (.inr (.inr (.inr f433)))) ∧ q432 ∈ P434 ∧ q432 ∉ P364 ∧ dc ≤ 1 ∧ ds ≤ p367.toInt.toNat ∧ (∀ j : Nat, (j : Int) < (n369 : Int) → f433 j = f368 j) ∧ rSrc f433 f368
set_option maxRecDepth 100000 in
set_option maxHeartbeats 4000000 in
theorem cp_373_Arrays_copyOf (l : Launch) (hl0 : l.stackTraces = false) (D : va_G) (I : FieldType → ClassId) (P364 : List Nat) (F365 : Nat → va_E) (q366 : Nat) (p367 : Int32) (f368 : Nat → Option Nat) (n369 : Nat) (hmq366 : q366 ∈ P364) (heq366 : F365 q366 = .inl (I (.object "java/lang/Object"), n369, .inr (.inr (.inr (.inr f368))))) (bp367 : gB p367 0 16777216) (x370 : (n369 : Int) ≤ p367.toInt) (x371 : rEl P364 F365 f368) (x372 : ((n369 : Int) ≤ 16777216)) : CtA (gV D I) l yJ7_copyOf_1904c cJ7_copyOf_1904c 2 (some (FieldType.array (FieldType.object "java/lang/Object"))) 2 41 1 p367.toInt.toNat [.ref q366, .int p367] (va_pl P364 F365) (pp_373_Arrays_copyOf D I P364 F365 q366 p367 f368 n369) gNA := by
  refine CtA_ofF hl0 (by decide +kernel) (Nat.le_of_ble_eq_true rfl) ?_
  refine G_aload_n 0 dr_cJ7_copyOf_1904c_0 rfl ?_
  refine G_iload_n 1 dr_cJ7_copyOf_1904c_1 rfl ?_
  refine G_aload_n 0 dr_cJ7_copyOf_1904c_2 rfl ?_
  refine Gp_getC 4 hmq366 heq366 rfl rfl dr_cJ7_copyOf_1904c_3 wr_10_19 wr_11_237 wr_10_20 wr_10_49 gr_mi (Nat.le_of_ble_eq_true rfl) (Nat.le_of_ble_eq_true rfl) ?_
  refine Gw_callS (As := [.ref q366, .int p367, .ref (D.2 1002 0)]) (gV_ok D I) (cp_383_Arrays_copyOf l hl0 D I P364 F365 q366 p367 f368 n369 hmq366 heq366 bp367 (by omega) (rEl_frG (rEl_src x371 rSrc_rf) (rSub_rf (P := P364)) (rFr_rf (W := []) (P := P364) (F := F365)) rNg_n) (by omega)) dr_cJ7_copyOf_1904c_6 ⟨wr_10_50, wr_1_30, wr_10_52, by decide, rfl, (Nat.le_of_ble_eq_true rfl), (Nat.le_of_ble_eq_true rfl)⟩ wr_10_51 (show 0 + 1 ≤ 1 by first | omega | decide) (show 0 + p367.toInt.toNat ≤ p367.toInt.toNat by first | omega | decide) (Nat.le_of_ble_eq_true rfl) (fun r414 w415 dc411 ds412 hp413 => ?_) (fun _ _ _ _ _ z => z.elim)
  obtain ⟨P420, F421, q416, f417, rfl, rfl, hsb422, hfr423, he424, he425, hm426, hq427, hdc, hds, x418, x419⟩ := hp413
  have hm428 : q366 ∈ P420 := hsb422 q366 hmq366
  have hq429 : q416 ∉ P364 := fun z => hq427 ((rSub_rf (P := P364)) q416 z)
  have hsb430 : rSub P364 P420 := rSub_tr (rSub_rf (P := P364)) hsb422
  have hfr431 : rFr [] P364 F365 F421 := rFr_call (rSub_rf (P := P364)) (rFr_rf (W := []) (P := P364) (F := F365)) hfr423 (fun b hb hn => ⟨nm_n, nm_n⟩)
  change G _ _ _ _ _ _ _ (.ref q416 :: _) _ _ _
  refine G_widen (cs' := 1) (sl' := p367.toInt.toNat) (by omega) (by omega) ?_
  exact G_aretA (FieldType.array (FieldType.object "java/lang/Object")) dr_cJ7_copyOf_1904c_9 rfl (by first | exact Or.inl ⟨_, rfl⟩ | exact Or.inr ⟨_, rfl⟩) (Or.inr ⟨_, rfl⟩) (Nat.le_of_ble_eq_true rfl) (show p367.toInt.toNat ≤ p367.toInt.toNat by omega) ⟨P420, F421, q416, f417, rfl, rfl, hsb430, hfr431, he424, he425, hm426, hq429, (Nat.le_of_ble_eq_true rfl), (by omega), (by assumption), (rSrc_tr x419 rSrc_rf)⟩
abbrev ky_341_ArrayList_grow : gKey := (cJx4a65c_grow_92f84, 4, "java/util/ArrayList", (some (FieldType.array (FieldType.object "java/lang/Object"))), [], "grow", fun _ _ => True)
def pp_341_ArrayList_grow (D : va_G) (I : FieldType → ClassId) (P326 : List Nat) (F327 : Nat → va_E) (q328 : Nat) (q329 : Nat) (p330 : Int32) (p331 : Int32) (p332 : Int32) (f333 : Nat → Option Nat) (n334 : Nat) : Option Value → va_W → Nat → Nat → Prop := fun r w dc ds => ∃ (P469 : List Nat) (F470 : Nat → va_E) (q466 : Nat) (n467 : Nat) (f468 : Nat → Option Nat), r = some (.ref q466) ∧ w = va_pl P469 F470 ∧ rSub P326 P469 ∧ rFr [q328] P326 F327 F470 ∧ F470 q328 = .inr (4, [.int p331, .ref q466, .int p332]) ∧ F470 q466 = .inl (I (.object "java/lang/Object"), n467, .inr (.inr (.inr (.inr f468)))) ∧ q466 ∈ P469 ∧ q466 ∉ P326 ∧ dc ≤ 1 ∧ ds ≤ n334 + n334 / 2 + 1 ∧ (∀ j : Nat, (j : Int) < (n334 : Int) → f468 j = f333 j) ∧ rSrc f468 f333 ∧ ((n467 : Int) ≤ (n334 : Int) + (n334 : Int) / 2 + 1 ∧ (n334 : Int) + 1 ≤ (n467 : Int) ∧ (n334 : Int) + (n334 : Int) / 2 ≤ (n467 : Int))
set_option maxRecDepth 100000 in
set_option maxHeartbeats 4000000 in
theorem cp_341_ArrayList_grow (l : Launch) (hl0 : l.stackTraces = false) (D : va_G) (I : FieldType → ClassId) (P326 : List Nat) (F327 : Nat → va_E) (q328 : Nat) (q329 : Nat) (p330 : Int32) (p331 : Int32) (p332 : Int32) (f333 : Nat → Option Nat) (n334 : Nat) (hmq328 : q328 ∈ P326) (hmq329 : q329 ∈ P326) (heq328 : F327 q328 = .inr (4, [.int p331, .ref q329, .int p332])) (heq329 : F327 q329 = .inl (I (.object "java/lang/Object"), n334, .inr (.inr (.inr (.inr f333))))) (bp330 : gB p330 0 16777216) (bp332 : gB p332 0 16777216) (x335 : 0 < (n334 : Int)) (x336 : (n334 : Int) ≤ 1000000) (x337 : p332.toInt = (n334 : Int)) (x338 : p330.toInt = p332.toInt + 1) (x339 : rEl P326 F327 f333) (x340 : ((n334 : Int) ≤ 16777216)) : CtA (gV D I) l yJx4a65c_grow_92f84 cJx4a65c_grow_92f84 4 (some (FieldType.array (FieldType.object "java/lang/Object"))) 3 62 1 (n334 + n334 / 2 + 1) [.ref q328, .int p330] (va_pl P326 F327) (pp_341_ArrayList_grow D I P326 F327 q328 q329 p330 p331 p332 f333 n334) gNA := by
  refine CtA_ofF hl0 (by decide +kernel) (Nat.le_of_ble_eq_true rfl) ?_
  have bp331 := gB_any p331
  refine G_aload_n 0 dr_cJx4a65c_grow_92f84_0 rfl ?_
  refine Gp_get 1 hmq328 heq328 dr_cJx4a65c_grow_92f84_1 (gk_Jx4a65c D I) (Nat.le_of_ble_eq_true rfl) wr_7_17 rfl ?_
  refine Gp_alen (Int32.ofNat n334) 4 hmq329 heq329 dr_cJx4a65c_grow_92f84_4 rfl rfl (G_nam fun z342 hz342 => ?_)
  have ez342 : z342.toInt = (n334 : Nat) := gI_ofM hz342 (by omega)
  have bz342 : gB z342 0 16777216 := ⟨by omega, by omega⟩
  refine G_istore_n (L' := [(2, .int z342), (0, .ref q328), (1, .int p330)]) dr_cJx4a65c_grow_92f84_5 (Nat.le_of_ble_eq_true rfl) rfl ?_
  refine G_iload_n 0 dr_cJx4a65c_grow_92f84_6 rfl ?_
  refine G_if_gt 20 dr_cJx4a65c_grow_92f84_7 (by decide +kernel) (fun hc343 => ?_) (fun hc => absurd (show False by have := gj_nltL hc (show Int32.toInt 0 = 0 by decide); omega) not_false)
  have r345 : 0 < z342.toInt := gj_ltL hc343 (show Int32.toInt 0 = 0 by decide)
  have bz342' : gB z342 1 16777216 := ⟨by omega, by omega⟩
  refine G_iload_n 0 dr_cJx4a65c_grow_92f84_20 rfl ?_
  refine G_iload_n 2 dr_cJx4a65c_grow_92f84_21 rfl ?_
  refine G_iload_n 0 dr_cJx4a65c_grow_92f84_22 rfl ?_
  refine G_isub dr_cJx4a65c_grow_92f84_23 (G_nam fun z346 hz346 => ?_)
  have ez346 : z346.toInt = p330.toInt - z342.toInt := by rw [gI_sub hz346 bp330 bz342' (by decide) (by decide)]
  have bz346 : gB z346 (-16777216) 16777215 := gB_sub (gI_sub hz346 bp330 bz342' (by decide) (by decide)) bp330 bz342' (by decide) (by decide)
  refine G_iload_n 0 dr_cJx4a65c_grow_92f84_24 rfl ?_
  refine G_iconst 1 dr_cJx4a65c_grow_92f84_25 (by decide +kernel) ?_
  refine G_ishr dr_cJx4a65c_grow_92f84_26 (G_nam fun z347 hz347 => ?_)
  have ez347 : z347.toInt = z342.toInt / 2 := gI_shr (k := 1) hz347 (by decide)
  have bz347 : gB z347 0 8388608 := ⟨by omega, by omega⟩
  refine Gw_callS (As := [.int z342, .int z346, .int z347]) (gV_ok D I) (cp_353_ArraysSupport_newLength l hl0 D I P326 F327 z342 z346 z347 (gB_w bz342' (by decide) (by decide)) ⟨by omega, by omega⟩ (gB_w bz347 (by decide) (by decide))) dr_cJx4a65c_grow_92f84_27 ⟨wr_10_15, wr_1_33, wr_8_10, by decide, rfl, (Nat.le_of_ble_eq_true rfl), (Nat.le_of_ble_eq_true rfl)⟩ wr_8_9 (show 0 + 0 ≤ 1 by first | omega | decide) (show 0 + 0 ≤ (n334 + n334 / 2 + 1) by first | omega | decide) (Nat.le_of_ble_eq_true rfl) (fun r360 w361 dc357 ds358 hp359 => ?_) (fun _ _ _ _ _ z => z.elim)
  obtain ⟨o362, rfl, rfl, hdc, hds, bo362, x363⟩ := hp359
  change G _ _ _ _ _ _ _ (.int o362 :: _) _ _ _
  refine G_widen (cs' := 0) (sl' := 0) (by omega) (by omega) ?_
  refine G_istore_n (L' := [(3, .int o362), (2, .int z342), (0, .ref q328), (1, .int p330)]) dr_cJx4a65c_grow_92f84_30 (Nat.le_of_ble_eq_true rfl) rfl ?_
  refine G_aload_n 2 dr_cJx4a65c_grow_92f84_31 rfl ?_
  refine G_aload_n 2 dr_cJx4a65c_grow_92f84_32 rfl ?_
  refine Gp_get 1 hmq328 heq328 dr_cJx4a65c_grow_92f84_33 (gk_Jx4a65c D I) (Nat.le_of_ble_eq_true rfl) wr_7_17 rfl ?_
  refine G_iload_n 0 dr_cJx4a65c_grow_92f84_36 rfl ?_
  refine Gw_callS (As := [.ref q329, .int o362]) (gV_ok D I) (cp_373_Arrays_copyOf l hl0 D I P326 F327 q329 o362 f333 n334 hmq329 heq329 ⟨by omega, by omega⟩ (by omega) (rEl_frG (rEl_src x339 rSrc_rf) (rSub_rf (P := P326)) (rFr_rf (W := []) (P := P326) (F := F327)) rNg_n) (by omega)) dr_cJx4a65c_grow_92f84_37 ⟨wr_10_16, wr_1_30, wr_10_18, by decide, rfl, (Nat.le_of_ble_eq_true rfl), (Nat.le_of_ble_eq_true rfl)⟩ wr_10_17 (show 0 + 1 ≤ 1 by first | omega | decide) (show 0 + o362.toInt.toNat ≤ (n334 + n334 / 2 + 1) by first | omega | decide) (Nat.le_of_ble_eq_true rfl) (fun r439 w440 dc436 ds437 hp438 => ?_) (fun _ _ _ _ _ z => z.elim)
  obtain ⟨P445, F446, q441, f442, rfl, rfl, hsb447, hfr448, he449, he450, hm451, hq452, hdc, hds, x443, x444⟩ := hp438
  have hm453 : q328 ∈ P445 := hsb447 q328 hmq328
  have hm454 : q329 ∈ P445 := hsb447 q329 hmq329
  have hq455 : q441 ∉ P326 := fun z => hq452 ((rSub_rf (P := P326)) q441 z)
  have hsb456 : rSub P326 P445 := rSub_tr (rSub_rf (P := P326)) hsb447
  have he457 : F446 q328 = .inr (4, [.int p331, .ref q329, .int p332]) := (hfr448 q328 hmq328 nm_n).trans heq328
  have hfr458 : rFr [] P326 F327 F446 := rFr_call (rSub_rf (P := P326)) (rFr_rf (W := []) (P := P326) (F := F327)) hfr448 (fun b hb hn => ⟨nm_n, nm_n⟩)
  change G _ _ _ _ _ _ _ (.ref q441 :: _) _ _ _
  refine G_widen (cs' := 1) (sl' := o362.toInt.toNat) (by omega) (by omega) ?_
  refine G_dup_x1 dr_cJx4a65c_grow_92f84_40 rfl rfl ?_
  refine Gp_put 1 hm453 he457 dr_cJx4a65c_grow_92f84_41 (gk_Jx4a65c D I) (Nat.le_of_ble_eq_true rfl) wr_7_17 rfl rfl rfl (Nat.le_of_ble_eq_true rfl) (fun F459 e460 n461 => ?_)
  have he462 : F459 q329 = .inl (I (.object "java/lang/Object"), n334, .inr (.inr (.inr (.inr f333)))) := (n461 q329 (rn_ao he449 he457)).trans he449
  have he463 : F459 q441 = .inl (I (.object "java/lang/Object"), o362.toInt.toNat, .inr (.inr (.inr (.inr f442)))) := (n461 q441 (fun h => hq455 (h ▸ hmq328))).trans he450
  have he464 : F459 q328 = .inr (4, [.int p331, .ref q441, .int p332]) := e460
  have hfr465 : rFr [q328] P326 F327 F459 := rFr_put hfr458 n461
  exact G_aretA (FieldType.array (FieldType.object "java/lang/Object")) dr_cJx4a65c_grow_92f84_44 rfl (by first | exact Or.inl ⟨_, rfl⟩ | exact Or.inr ⟨_, rfl⟩) (Or.inr ⟨_, rfl⟩) (Nat.le_of_ble_eq_true rfl) (show o362.toInt.toNat ≤ (n334 + n334 / 2 + 1) by omega) ⟨P445, F459, q441, o362.toInt.toNat, f442, rfl, rfl, hsb456, hfr465, he464, he463, hm451, hq455, (Nat.le_of_ble_eq_true rfl), (by omega), (by assumption), (rSrc_tr x444 rSrc_rf), (by omega)⟩
abbrev ky_324_ArrayList_grow : gKey := (cJx4a65c_grow_d5877, 1, "java/util/ArrayList", (some (FieldType.array (FieldType.object "java/lang/Object"))), [], "grow", fun _ _ => True)
def pp_324_ArrayList_grow (D : va_G) (I : FieldType → ClassId) (P311 : List Nat) (F312 : Nat → va_E) (q313 : Nat) (q314 : Nat) (p315 : Int32) (p316 : Int32) (f317 : Nat → Option Nat) (n318 : Nat) : Option Value → va_W → Nat → Nat → Prop := fun r w dc ds => ∃ (P499 : List Nat) (F500 : Nat → va_E) (q496 : Nat) (n497 : Nat) (f498 : Nat → Option Nat), r = some (.ref q496) ∧ w = va_pl P499 F500 ∧ rSub P311 P499 ∧ rFr [q313] P311 F312 F500 ∧ F500 q313 = .inr (4, [.int p315, .ref q496, .int p316]) ∧ F500 q496 = .inl (I (.object "java/lang/Object"), n497, .inr (.inr (.inr (.inr f498)))) ∧ q496 ∈ P499 ∧ q496 ∉ P311 ∧ dc ≤ 1 ∧ ds ≤ n318 + n318 / 2 + 1 ∧ (∀ j : Nat, (j : Int) < (n318 : Int) → f498 j = f317 j) ∧ rSrc f498 f317 ∧ ((n497 : Int) ≤ (n318 : Int) + (n318 : Int) / 2 + 1 ∧ (n318 : Int) + 1 ≤ (n497 : Int) ∧ (n318 : Int) + (n318 : Int) / 2 ≤ (n497 : Int))
set_option maxRecDepth 100000 in
set_option maxHeartbeats 4000000 in
theorem cp_324_ArrayList_grow (l : Launch) (hl0 : l.stackTraces = false) (D : va_G) (I : FieldType → ClassId) (P311 : List Nat) (F312 : Nat → va_E) (q313 : Nat) (q314 : Nat) (p315 : Int32) (p316 : Int32) (f317 : Nat → Option Nat) (n318 : Nat) (hmq313 : q313 ∈ P311) (hmq314 : q314 ∈ P311) (heq313 : F312 q313 = .inr (4, [.int p315, .ref q314, .int p316])) (heq314 : F312 q314 = .inl (I (.object "java/lang/Object"), n318, .inr (.inr (.inr (.inr f317))))) (bp316 : gB p316 0 16777216) (x319 : 0 < (n318 : Int)) (x320 : (n318 : Int) ≤ 1000000) (x321 : p316.toInt = (n318 : Int)) (x322 : rEl P311 F312 f317) (x323 : ((n318 : Int) ≤ 16777216)) : CtA (gV D I) l yJx4a65c_grow_d5877 cJx4a65c_grow_d5877 1 (some (FieldType.array (FieldType.object "java/lang/Object"))) 4 85 1 (n318 + n318 / 2 + 1) [.ref q313] (va_pl P311 F312) (pp_324_ArrayList_grow D I P311 F312 q313 q314 p315 p316 f317 n318) gNA := by
  refine CtA_ofF hl0 (by decide +kernel) (Nat.le_of_ble_eq_true rfl) ?_
  have bp315 := gB_any p315
  refine G_aload_n 0 dr_cJx4a65c_grow_d5877_0 rfl ?_
  refine G_aload_n 0 dr_cJx4a65c_grow_d5877_1 rfl ?_
  refine Gp_get 2 hmq313 heq313 dr_cJx4a65c_grow_d5877_2 (gk_Jx4a65c D I) (Nat.le_of_ble_eq_true rfl) wr_7_18 rfl ?_
  refine G_iconst 1 dr_cJx4a65c_grow_d5877_5 (by decide +kernel) ?_
  refine G_iadd dr_cJx4a65c_grow_d5877_6 (G_nam fun z325 hz325 => ?_)
  have ez325 : z325.toInt = p316.toInt + 1 := by rw [gI_add hz325 bp316 (gBl (show Int32.toInt 1 = 1 by decide)) (by decide) (by decide), show Int32.toInt 1 = 1 from by decide]
  have bz325 : gB z325 1 16777217 := gB_add (gI_add hz325 bp316 (gBl (show Int32.toInt 1 = 1 by decide)) (by decide) (by decide)) bp316 (gBl (show Int32.toInt 1 = 1 by decide)) (by decide) (by decide)
  refine Gw_callV (As := [.int z325]) (gV_ok D I) (cp_341_ArrayList_grow l hl0 D I P311 F312 q313 q314 z325 p315 p316 f317 n318 hmq313 hmq314 heq313 heq314 ⟨by omega, by omega⟩ bp316 (by omega) (by omega) (by omega) (by omega) (rEl_frG (rEl_src x322 rSrc_rf) (rSub_rf (P := P311)) (rFr_rf (W := []) (P := P311) (F := F312)) rNg_n) (by omega)) dr_cJx4a65c_grow_d5877_7 ⟨wr_10_11, wr_1_18, wr_10_14, by decide, rfl, (Nat.le_of_ble_eq_true rfl), (Nat.le_of_ble_eq_true rfl)⟩ wr_10_13 wr_p_87 hmq313 heq313 rfl (show 0 + 1 ≤ 1 by first | omega | decide) (show 0 + (n318 + n318 / 2 + 1) ≤ (n318 + n318 / 2 + 1) by first | omega | decide) (Nat.le_of_ble_eq_true rfl) (fun r474 w475 dc471 ds472 hp473 => ?_) (fun _ _ _ _ _ z => z.elim)
  obtain ⟨P482, F483, q476, n477, f478, rfl, rfl, hsb484, hfr485, he486, he487, hm488, hq489, hdc, hds, x479, x480, x481⟩ := hp473
  have hm490 : q313 ∈ P482 := hsb484 q313 hmq313
  have hm491 : q314 ∈ P482 := hsb484 q314 hmq314
  have hq492 : q476 ∉ P311 := fun z => hq489 ((rSub_rf (P := P311)) q476 z)
  have hsb493 : rSub P311 P482 := rSub_tr (rSub_rf (P := P311)) hsb484
  have he494 : F483 q314 = .inl (I (.object "java/lang/Object"), n318, .inr (.inr (.inr (.inr f317)))) := (hfr485 q314 hmq314 (nm_c (rn_ao heq314 heq313) nm_n)).trans heq314
  have hfr495 : rFr [q313] P311 F312 F483 := rFr_call (rSub_rf (P := P311)) (rFr_rf (W := []) (P := P311) (F := F312)) hfr485 (fun b hb hn => ⟨nm_n, (nm_c (fun e => hn (e ▸ List.mem_cons_self)) nm_n)⟩)
  change G _ _ _ _ _ _ _ (.ref q476 :: _) _ _ _
  refine G_widen (cs' := 1) (sl' := n318 + n318 / 2 + 1) (by omega) (by omega) ?_
  exact G_aretA (FieldType.array (FieldType.object "java/lang/Object")) dr_cJx4a65c_grow_d5877_10 rfl (by first | exact Or.inl ⟨_, rfl⟩ | exact Or.inr ⟨_, rfl⟩) (Or.inr ⟨_, rfl⟩) (Nat.le_of_ble_eq_true rfl) (show n318 + n318 / 2 + 1 ≤ (n318 + n318 / 2 + 1) by omega) ⟨P482, F483, q476, n477, f478, rfl, rfl, hsb493, hfr495, he486, he487, hm488, hq492, (Nat.le_of_ble_eq_true rfl), (by omega), (by assumption), (rSrc_tr x480 rSrc_rf), (by omega)⟩
abbrev ky_306_ArrayList_add : gKey := (cJx4a65c_add_72be8, 4, "java/util/ArrayList", none, [], "add", fun _ _ => True)
def pp_306_ArrayList_add (D : va_G) (I : FieldType → ClassId) (P283 : List Nat) (F284 : Nat → va_E) (q285 : Nat) (q286 : Nat) (q287 : Nat) (p288 : Int32) (p289 : Int32) (p290 : Int32) (p291 : Int32) (p292 : Int32) (p293 : Int32) (p294 : Int32) (p295 : Int32) (p296 : Int32) (p297 : Int32) (f298 : Nat → Option Nat) (n299 : Nat) : Option Value → va_W → Nat → Nat → Prop := fun r w dc ds => ∃ (P550 : List Nat) (F551 : Nat → va_E) (o546 : Int32) (q547 : Nat) (n548 : Nat) (f549 : Nat → Option Nat), r = none ∧ w = va_pl P550 F551 ∧ rSub P283 P550 ∧ rFr [q285] P283 F284 F551 ∧ F551 q286 = .inr (20, [.int p291, .int p292, .int p293, .int p294, .int p295, .int p296, .int p297]) ∧ F551 q287 = .inl (I (.object "java/lang/Object"), n299, .inr (.inr (.inr (.inr f298)))) ∧ F551 q285 = .inr (4, [.int p289, .ref q547, .int o546]) ∧ F551 q547 = .inl (I (.object "java/lang/Object"), n548, .inr (.inr (.inr (.inr f549)))) ∧ q547 ∈ P550 ∧ q547 ∉ P283 ∧ dc ≤ 1 ∧ ds ≤ n299 + n299 / 2 + 1 ∧ gB o546 1 16777217 ∧ o546.toInt = p290.toInt + 1 ∧ ((∀ j : Nat, (j : Int) < p290.toInt → f549 j = f298 j) ∧ f549 p288.toInt.toNat = some q286) ∧ rSrcX f549 f298 q286 ∧ ((n548 : Int) ≤ (n299 : Int) + (n299 : Int) / 2 + 1 ∧ (n299 : Int) + 1 ≤ (n548 : Int) ∧ (n299 : Int) + (n299 : Int) / 2 ≤ (n548 : Int))
set_option maxRecDepth 100000 in
set_option maxHeartbeats 4000000 in
theorem cp_306_ArrayList_add (l : Launch) (hl0 : l.stackTraces = false) (D : va_G) (I : FieldType → ClassId) (P283 : List Nat) (F284 : Nat → va_E) (q285 : Nat) (q286 : Nat) (q287 : Nat) (p288 : Int32) (p289 : Int32) (p290 : Int32) (p291 : Int32) (p292 : Int32) (p293 : Int32) (p294 : Int32) (p295 : Int32) (p296 : Int32) (p297 : Int32) (f298 : Nat → Option Nat) (n299 : Nat) (hmq285 : q285 ∈ P283) (hmq286 : q286 ∈ P283) (hmq287 : q287 ∈ P283) (heq285 : F284 q285 = .inr (4, [.int p289, .ref q287, .int p290])) (heq286 : F284 q286 = .inr (20, [.int p291, .int p292, .int p293, .int p294, .int p295, .int p296, .int p297])) (heq287 : F284 q287 = .inl (I (.object "java/lang/Object"), n299, .inr (.inr (.inr (.inr f298))))) (bp288 : gB p288 0 16777216) (bp290 : gB p290 0 16777216) (bp291 : gB p291 0 32) (bp292 : gB p292 0 1999) (bp295 : gB p295 0 1999) (bp296 : gB p296 0 1) (bp297 : gB p297 0 1) (x300 : 0 < (n299 : Int)) (x301 : (n299 : Int) ≤ 1000000) (x302 : p290.toInt = (n299 : Int)) (x303 : p288.toInt = p290.toInt) (x304 : rEl P283 F284 f298) (x305 : ((n299 : Int) ≤ 16777216)) : CtA (gV D I) l yJx4a65c_add_72be8 cJx4a65c_add_72be8 4 none 5 105 1 (n299 + n299 / 2 + 1) [.ref q285, .ref q286, .ref q287, .int p288] (va_pl P283 F284) (pp_306_ArrayList_add D I P283 F284 q285 q286 q287 p288 p289 p290 p291 p292 p293 p294 p295 p296 p297 f298 n299) gNA := by
  refine CtA_ofF hl0 (by decide +kernel) (Nat.le_of_ble_eq_true rfl) ?_
  have bp289 := gB_any p289
  have bp293 := gB_any p293
  have bp294 := gB_any p294
  refine G_iload_n 3 dr_cJx4a65c_add_72be8_0 rfl ?_
  refine G_aload_n 2 dr_cJx4a65c_add_72be8_1 rfl ?_
  refine Gp_alen (Int32.ofNat n299) 4 hmq287 heq287 dr_cJx4a65c_add_72be8_2 rfl rfl (G_nam fun z307 hz307 => ?_)
  have ez307 : z307.toInt = (n299 : Nat) := gI_ofM hz307 (by omega)
  have bz307 : gB z307 0 16777216 := ⟨by omega, by omega⟩
  refine G_icmp_ne 11 dr_cJx4a65c_add_72be8_3 (by decide +kernel) (fun hc => absurd (show False by have := gC_ne hc; omega) not_false) (fun hc308 => ?_)
  have r310 : p288.toInt = z307.toInt := gC_eq hc308
  refine G_aload_n 0 dr_cJx4a65c_add_72be8_6 rfl ?_
  refine Gw_callV (As := []) (gV_ok D I) (cp_324_ArrayList_grow l hl0 D I P283 F284 q285 q287 p289 p290 f298 n299 hmq285 hmq287 heq285 heq287 bp290 (by omega) (by omega) (by omega) (rEl_frG (rEl_src x304 rSrc_rf) (rSub_rf (P := P283)) (rFr_rf (W := []) (P := P283) (F := F284)) rNg_n) (by omega)) dr_cJx4a65c_add_72be8_7 ⟨wr_10_7, wr_1_18, wr_10_10, by decide, rfl, (Nat.le_of_ble_eq_true rfl), (Nat.le_of_ble_eq_true rfl)⟩ wr_10_9 wr_p_86 hmq285 heq285 rfl (show 0 + 1 ≤ 1 by first | omega | decide) (show 0 + (n299 + n299 / 2 + 1) ≤ (n299 + n299 / 2 + 1) by first | omega | decide) (Nat.le_of_ble_eq_true rfl) (fun r504 w505 dc501 ds502 hp503 => ?_) (fun _ _ _ _ _ z => z.elim)
  obtain ⟨P512, F513, q506, n507, f508, rfl, rfl, hsb514, hfr515, he516, he517, hm518, hq519, hdc, hds, x509, x510, x511⟩ := hp503
  have hm520 : q285 ∈ P512 := hsb514 q285 hmq285
  have hm521 : q286 ∈ P512 := hsb514 q286 hmq286
  have hm522 : q287 ∈ P512 := hsb514 q287 hmq287
  have hq523 : q506 ∉ P283 := fun z => hq519 ((rSub_rf (P := P283)) q506 z)
  have hsb524 : rSub P283 P512 := rSub_tr (rSub_rf (P := P283)) hsb514
  have he525 : F513 q286 = .inr (20, [.int p291, .int p292, .int p293, .int p294, .int p295, .int p296, .int p297]) := (hfr515 q286 hmq286 (nm_c (rn_oo heq286 heq285 (by decide)) nm_n)).trans heq286
  have he526 : F513 q287 = .inl (I (.object "java/lang/Object"), n299, .inr (.inr (.inr (.inr f298)))) := (hfr515 q287 hmq287 (nm_c (rn_ao heq287 heq285) nm_n)).trans heq287
  have hfr527 : rFr [q285] P283 F284 F513 := rFr_call (rSub_rf (P := P283)) (rFr_rf (W := []) (P := P283) (F := F284)) hfr515 (fun b hb hn => ⟨nm_n, (nm_c (fun e => hn (e ▸ List.mem_cons_self)) nm_n)⟩)
  change G _ _ _ _ _ _ _ (.ref q506 :: _) _ _ _
  refine G_widen (cs' := 1) (sl' := n299 + n299 / 2 + 1) (by omega) (by omega) ?_
  refine G_astore_n (L' := [(2, .ref q506), (0, .ref q285), (1, .ref q286), (3, .int p288)]) dr_cJx4a65c_add_72be8_10 (Nat.le_of_ble_eq_true rfl) rfl ?_
  refine G_aload_n 0 dr_cJx4a65c_add_72be8_11 rfl ?_
  refine G_iload_n 3 dr_cJx4a65c_add_72be8_12 rfl ?_
  refine G_aload_n 2 dr_cJx4a65c_add_72be8_13 rfl ?_
  refine Gp_aast 4 hm518 he517 dr_cJx4a65c_add_72be8_14 rfl ⟨hm521, _, _, _, _, _, he525, rfl, gr_cast 3 rfl⟩ (gB_inr (by omega) (by omega)) (fun F528 e529 n530 => ?_)
  obtain ⟨f531, hf531⟩ : ∃ z, z = va_up f508 p288.toNatClampNeg (some q286) := ⟨_, rfl⟩
  rw [← hf531] at e529
  have he532 : F528 q286 = .inr (20, [.int p291, .int p292, .int p293, .int p294, .int p295, .int p296, .int p297]) := (n530 q286 (fun h => hq523 (h ▸ hmq286))).trans he525
  have he533 : F528 q287 = .inl (I (.object "java/lang/Object"), n299, .inr (.inr (.inr (.inr f298)))) := (n530 q287 (fun h => hq523 (h ▸ hmq287))).trans he526
  have he534 : F528 q285 = .inr (4, [.int p289, .ref q506, .int p290]) := (n530 q285 (fun h => hq523 (h ▸ hmq285))).trans he516
  have he535 : F528 q506 = .inl (I (.object "java/lang/Object"), n507, .inr (.inr (.inr (.inr f531)))) := e529
  have hfr536 : rFr [q285] P283 F284 F528 := rFr_newp hq523 hfr527 n530
  refine G_aload_n 1 dr_cJx4a65c_add_72be8_15 rfl ?_
  refine G_iload_n 3 dr_cJx4a65c_add_72be8_16 rfl ?_
  refine G_iconst 1 dr_cJx4a65c_add_72be8_17 (by decide +kernel) ?_
  refine G_iadd dr_cJx4a65c_add_72be8_18 (G_nam fun z537 hz537 => ?_)
  have ez537 : z537.toInt = p288.toInt + 1 := by rw [gI_add hz537 bp288 (gBl (show Int32.toInt 1 = 1 by decide)) (by decide) (by decide), show Int32.toInt 1 = 1 from by decide]
  have bz537 : gB z537 1 16777217 := gB_add (gI_add hz537 bp288 (gBl (show Int32.toInt 1 = 1 by decide)) (by decide) (by decide)) bp288 (gBl (show Int32.toInt 1 = 1 by decide)) (by decide) (by decide)
  refine Gp_put 2 hm520 he534 dr_cJx4a65c_add_72be8_19 (gk_Jx4a65c D I) (Nat.le_of_ble_eq_true rfl) wr_7_18 rfl rfl rfl (Nat.le_of_ble_eq_true rfl) (fun F538 e539 n540 => ?_)
  have he541 : F538 q286 = .inr (20, [.int p291, .int p292, .int p293, .int p294, .int p295, .int p296, .int p297]) := (n540 q286 (rn_oo he532 he534 (by decide))).trans he532
  have he542 : F538 q287 = .inl (I (.object "java/lang/Object"), n299, .inr (.inr (.inr (.inr f298)))) := (n540 q287 (rn_ao he533 he534)).trans he533
  have he543 : F538 q506 = .inl (I (.object "java/lang/Object"), n507, .inr (.inr (.inr (.inr f531)))) := (n540 q506 (fun h => hq523 (h ▸ hmq285))).trans he535
  have he544 : F538 q285 = .inr (4, [.int p289, .ref q506, .int z537]) := e539
  have hfr545 : rFr [q285] P283 F284 F538 := rFr_put' List.mem_cons_self hfr536 n540
  exact G_vretA dr_cJx4a65c_add_72be8_22 rfl (Nat.le_of_ble_eq_true rfl) (show n299 + n299 / 2 + 1 ≤ (n299 + n299 / 2 + 1) by omega) ⟨P512, F538, z537, q506, n507, f531, rfl, rfl, hsb524, hfr545, he541, he542, he544, he543, hm518, hq523, (Nat.le_of_ble_eq_true rfl), (by omega), bz537, (by omega), (rI_add (fun j hj => x509 j (by omega)) hf531 (by omega) (by omega)), (rSrcX_up hf531 (rSrc_tr x510 rSrc_rf)), (by omega)⟩
