theorem dr_cJx4a65c_size_8abf5_0 : decode cJx4a65c_size_8abf5 0 = .ok (.aload_n 0, 1) := by decide +kernel
theorem dr_cJx4a65c_size_8abf5_1 : decode cJx4a65c_size_8abf5 1 = .ok (.getfield 48, 3) := by decide +kernel
theorem wr_7_18 : (Jvm.Cond.fieldLink "java/util/ArrayList" (48 : Nat) "java/util/ArrayList" "size" "I") ∈ gw := gw_7 18 rfl rfl
theorem dr_cJx4a65c_size_8abf5_4 : decode cJx4a65c_size_8abf5 4 = .ok (.ireturn, 1) := by decide +kernel
theorem dr_cJ3_checkIndex_8e157_0 : decode cJ3_checkIndex_8e157 0 = .ok (.iload_n 0, 1) := by decide +kernel
theorem dr_cJ3_checkIndex_8e157_1 : decode cJ3_checkIndex_8e157 1 = .ok (.ifCond .lt 8, 3) := by decide +kernel
theorem dr_cJ3_checkIndex_8e157_4 : decode cJ3_checkIndex_8e157 4 = .ok (.iload_n 0, 1) := by decide +kernel
theorem dr_cJ3_checkIndex_8e157_5 : decode cJ3_checkIndex_8e157 5 = .ok (.iload_n 1, 1) := by decide +kernel
theorem dr_cJ3_checkIndex_8e157_6 : decode cJ3_checkIndex_8e157 6 = .ok (.if_icmp .lt 10, 3) := by decide +kernel
theorem dr_cJ3_checkIndex_8e157_16 : decode cJ3_checkIndex_8e157 16 = .ok (.iload_n 0, 1) := by decide +kernel
theorem dr_cJ3_checkIndex_8e157_17 : decode cJ3_checkIndex_8e157 17 = .ok (.ireturn, 1) := by decide +kernel
theorem dr_cJ15_checkIndex_7cf53_0 : decode cJ15_checkIndex_7cf53 0 = .ok (.iload_n 0, 1) := by decide +kernel
theorem dr_cJ15_checkIndex_7cf53_1 : decode cJ15_checkIndex_7cf53 1 = .ok (.iload_n 1, 1) := by decide +kernel
theorem dr_cJ15_checkIndex_7cf53_2 : decode cJ15_checkIndex_7cf53 2 = .ok (.aconst_null, 1) := by decide +kernel
theorem dr_cJ15_checkIndex_7cf53_3 : decode cJ15_checkIndex_7cf53 3 = .ok (.invokestatic 105, 3) := by decide +kernel
theorem wr_10_69 : (Jvm.Cond.methodLink "java/util/Objects" (105 : Nat) ({ cls := "jdk/internal/util/Preconditions", name := "checkIndex", desc := "(IILjava/util/function/BiFunction;)I" } : Jvm.MethodName)) ∈ gw := gw_10 69 rfl rfl
theorem wr_1_29 : (Jvm.Cond.initialized "jdk/internal/util/Preconditions") ∈ gw := gw_1 29 rfl rfl
theorem wr_3_85 : (Jvm.Cond.code ({ cls := "jdk/internal/util/Preconditions", name := "checkIndex", desc := "(IILjava/util/function/BiFunction;)I" } : Jvm.MethodName) prog_52_method_11_code (3 : Nat) (Option.some Jvm.ClassFile.FieldType.int)) ∈ gw := gw_3 85 rfl rfl
theorem wr_3_84 : (Jvm.Cond.static ({ cls := "jdk/internal/util/Preconditions", name := "checkIndex", desc := "(IILjava/util/function/BiFunction;)I" } : Jvm.MethodName)) ∈ gw := gw_3 84 rfl rfl
theorem dr_cJ15_checkIndex_7cf53_6 : decode cJ15_checkIndex_7cf53 6 = .ok (.ireturn, 1) := by decide +kernel
theorem dr_cJx4a65c_elementData_915e3_0 : decode cJx4a65c_elementData_915e3 0 = .ok (.aload_n 0, 1) := by decide +kernel
theorem dr_cJx4a65c_elementData_915e3_1 : decode cJx4a65c_elementData_915e3 1 = .ok (.getfield 9, 3) := by decide +kernel
theorem wr_7_17 : (Jvm.Cond.fieldLink "java/util/ArrayList" (9 : Nat) "java/util/ArrayList" "elementData" "[Ljava/lang/Object;") ∈ gw := gw_7 17 rfl rfl
theorem dr_cJx4a65c_elementData_915e3_4 : decode cJx4a65c_elementData_915e3 4 = .ok (.iload_n 1, 1) := by decide +kernel
theorem dr_cJx4a65c_elementData_915e3_5 : decode cJx4a65c_elementData_915e3 5 = .ok (.aaload, 1) := by decide +kernel
theorem dr_cJx4a65c_elementData_915e3_6 : decode cJx4a65c_elementData_915e3 6 = .ok (.areturn, 1) := by decide +kernel
theorem dr_cJx4a65c_get_915e3_0 : decode cJx4a65c_get_915e3 0 = .ok (.iload_n 1, 1) := by decide +kernel
theorem dr_cJx4a65c_get_915e3_1 : decode cJx4a65c_get_915e3 1 = .ok (.aload_n 0, 1) := by decide +kernel
theorem dr_cJx4a65c_get_915e3_2 : decode cJx4a65c_get_915e3 2 = .ok (.getfield 48, 3) := by decide +kernel
theorem dr_cJx4a65c_get_915e3_5 : decode cJx4a65c_get_915e3 5 = .ok (.invokestatic 118, 3) := by decide +kernel
theorem wr_10_66 : (Jvm.Cond.methodLink "java/util/ArrayList" (118 : Nat) ({ cls := "java/util/Objects", name := "checkIndex", desc := "(II)I" } : Jvm.MethodName)) ∈ gw := gw_10 66 rfl rfl
theorem wr_1_40 : (Jvm.Cond.initialized "java/util/Objects") ∈ gw := gw_1 40 rfl rfl
theorem wr_10_68 : (Jvm.Cond.code ({ cls := "java/util/Objects", name := "checkIndex", desc := "(II)I" } : Jvm.MethodName) prog_48_method_17_code (2 : Nat) (Option.some Jvm.ClassFile.FieldType.int)) ∈ gw := gw_10 68 rfl rfl
theorem wr_10_67 : (Jvm.Cond.static ({ cls := "java/util/Objects", name := "checkIndex", desc := "(II)I" } : Jvm.MethodName)) ∈ gw := gw_10 67 rfl rfl
theorem dr_cJx4a65c_get_915e3_8 : decode cJx4a65c_get_915e3 8 = .ok (.pop, 1) := by decide +kernel
theorem dr_cJx4a65c_get_915e3_9 : decode cJx4a65c_get_915e3 9 = .ok (.aload_n 0, 1) := by decide +kernel
theorem dr_cJx4a65c_get_915e3_10 : decode cJx4a65c_get_915e3 10 = .ok (.iload_n 1, 1) := by decide +kernel
theorem dr_cJx4a65c_get_915e3_11 : decode cJx4a65c_get_915e3 11 = .ok (.invokevirtual 123, 3) := by decide +kernel
theorem wr_10_70 : (Jvm.Cond.methodLink "java/util/ArrayList" (123 : Nat) ({ cls := "java/util/ArrayList", name := "elementData", desc := "(I)Ljava/lang/Object;" } : Jvm.MethodName)) ∈ gw := gw_10 70 rfl rfl
theorem wr_1_18 : (Jvm.Cond.initialized "java/util/ArrayList") ∈ gw := gw_1 18 rfl rfl
theorem wr_10_73 : (Jvm.Cond.code ({ cls := "java/util/ArrayList", name := "elementData", desc := "(I)Ljava/lang/Object;" } : Jvm.MethodName) prog_43_method_18_code (2 : Nat) (Option.some (Jvm.ClassFile.FieldType.object "java/lang/Object"))) ∈ gw := gw_10 73 rfl rfl
theorem wr_10_71 : (Jvm.Cond.instanceMethod ({ cls := "java/util/ArrayList", name := "elementData", desc := "(I)Ljava/lang/Object;" } : Jvm.MethodName)) ∈ gw := gw_10 71 rfl rfl
theorem wr_10_72 : (Jvm.Cond.selects "java/util/ArrayList" ({ cls := "java/util/ArrayList", name := "elementData", desc := "(I)Ljava/lang/Object;" } : Jvm.MethodName) ({ cls := "java/util/ArrayList", name := "elementData", desc := "(I)Ljava/lang/Object;" } : Jvm.MethodName)) ∈ gw := gw_10 72 rfl rfl
theorem dr_cJx4a65c_get_915e3_14 : decode cJx4a65c_get_915e3 14 = .ok (.areturn, 1) := by decide +kernel
theorem dr_cJx4a65c_add_72be8_0 : decode cJx4a65c_add_72be8 0 = .ok (.iload_n 3, 1) := by decide +kernel
theorem dr_cJx4a65c_add_72be8_1 : decode cJx4a65c_add_72be8 1 = .ok (.aload_n 2, 1) := by decide +kernel
theorem dr_cJx4a65c_add_72be8_2 : decode cJx4a65c_add_72be8 2 = .ok (.arraylength, 1) := by decide +kernel
theorem dr_cJx4a65c_add_72be8_3 : decode cJx4a65c_add_72be8 3 = .ok (.if_icmp .ne 8, 3) := by decide +kernel
theorem dr_cJx4a65c_add_72be8_11 : decode cJx4a65c_add_72be8 11 = .ok (.aload_n 2, 1) := by decide +kernel
theorem dr_cJx4a65c_add_72be8_12 : decode cJx4a65c_add_72be8 12 = .ok (.iload_n 3, 1) := by decide +kernel
theorem dr_cJx4a65c_add_72be8_13 : decode cJx4a65c_add_72be8 13 = .ok (.aload_n 1, 1) := by decide +kernel
theorem dr_cJx4a65c_add_72be8_14 : decode cJx4a65c_add_72be8 14 = .ok (.aastore, 1) := by decide +kernel
theorem dr_cJx4a65c_add_72be8_15 : decode cJx4a65c_add_72be8 15 = .ok (.aload_n 0, 1) := by decide +kernel
theorem dr_cJx4a65c_add_72be8_16 : decode cJx4a65c_add_72be8 16 = .ok (.iload_n 3, 1) := by decide +kernel
theorem dr_cJx4a65c_add_72be8_17 : decode cJx4a65c_add_72be8 17 = .ok (.iconst 1, 1) := by decide +kernel
theorem dr_cJx4a65c_add_72be8_18 : decode cJx4a65c_add_72be8 18 = .ok (.iadd, 1) := by decide +kernel
theorem dr_cJx4a65c_add_72be8_19 : decode cJx4a65c_add_72be8 19 = .ok (.putfield 48, 3) := by decide +kernel
theorem dr_cJx4a65c_add_72be8_22 : decode cJx4a65c_add_72be8 22 = .ok (.return_, 1) := by decide +kernel
theorem dr_cJx4a65c_add_9ea2d_0 : decode cJx4a65c_add_9ea2d 0 = .ok (.aload_n 0, 1) := by decide +kernel
theorem dr_cJx4a65c_add_9ea2d_1 : decode cJx4a65c_add_9ea2d 1 = .ok (.dup, 1) := by decide +kernel
theorem dr_cJx4a65c_add_9ea2d_2 : decode cJx4a65c_add_9ea2d 2 = .ok (.getfield 63, 3) := by decide +kernel
theorem wr_7_20 : (Jvm.Cond.fieldLink "java/util/ArrayList" (63 : Nat) "java/util/ArrayList" "modCount" "I") ∈ gw := gw_7 20 rfl rfl
theorem wr_7_21 : (Jvm.Cond.sameField "java/util/ArrayList" "java/util/AbstractList" "modCount" "I") ∈ gw := gw_7 21 rfl rfl
theorem dr_cJx4a65c_add_9ea2d_5 : decode cJx4a65c_add_9ea2d 5 = .ok (.iconst 1, 1) := by decide +kernel
theorem dr_cJx4a65c_add_9ea2d_6 : decode cJx4a65c_add_9ea2d 6 = .ok (.iadd, 1) := by decide +kernel
theorem dr_cJx4a65c_add_9ea2d_7 : decode cJx4a65c_add_9ea2d 7 = .ok (.putfield 63, 3) := by decide +kernel
theorem dr_cJx4a65c_add_9ea2d_10 : decode cJx4a65c_add_9ea2d 10 = .ok (.aload_n 0, 1) := by decide +kernel
theorem dr_cJx4a65c_add_9ea2d_11 : decode cJx4a65c_add_9ea2d 11 = .ok (.aload_n 1, 1) := by decide +kernel
theorem dr_cJx4a65c_add_9ea2d_12 : decode cJx4a65c_add_9ea2d 12 = .ok (.aload_n 0, 1) := by decide +kernel
theorem dr_cJx4a65c_add_9ea2d_13 : decode cJx4a65c_add_9ea2d 13 = .ok (.getfield 9, 3) := by decide +kernel
theorem dr_cJx4a65c_add_9ea2d_16 : decode cJx4a65c_add_9ea2d 16 = .ok (.aload_n 0, 1) := by decide +kernel
theorem dr_cJx4a65c_add_9ea2d_17 : decode cJx4a65c_add_9ea2d 17 = .ok (.getfield 48, 3) := by decide +kernel
theorem dr_cJx4a65c_add_9ea2d_20 : decode cJx4a65c_add_9ea2d 20 = .ok (.invokevirtual 131, 3) := by decide +kernel
theorem wr_10_7 : (Jvm.Cond.methodLink "java/util/ArrayList" (131 : Nat) ({ cls := "java/util/ArrayList", name := "add", desc := "(Ljava/lang/Object;[Ljava/lang/Object;I)V" } : Jvm.MethodName)) ∈ gw := gw_10 7 rfl rfl
theorem wr_10_10 : (Jvm.Cond.code ({ cls := "java/util/ArrayList", name := "add", desc := "(Ljava/lang/Object;[Ljava/lang/Object;I)V" } : Jvm.MethodName) prog_43_method_24_code (4 : Nat) (Option.none : Option Jvm.ClassFile.FieldType)) ∈ gw := gw_10 10 rfl rfl
theorem wr_10_9 : (Jvm.Cond.instanceMethod ({ cls := "java/util/ArrayList", name := "add", desc := "(Ljava/lang/Object;[Ljava/lang/Object;I)V" } : Jvm.MethodName)) ∈ gw := gw_10 9 rfl rfl
theorem wr_p_85 : Cond.selects "java/util/ArrayList" ⟨"java/util/ArrayList", "add", "(Ljava/lang/Object;[Ljava/lang/Object;I)V"⟩ ⟨"java/util/ArrayList", "add", "(Ljava/lang/Object;[Ljava/lang/Object;I)V"⟩ ∈ gw := gw_p _ 85 rfl rfl rfl
theorem dr_cJx4a65c_add_9ea2d_23 : decode cJx4a65c_add_9ea2d 23 = .ok (.iconst 1, 1) := by decide +kernel
theorem dr_cJx4a65c_add_9ea2d_24 : decode cJx4a65c_add_9ea2d 24 = .ok (.ireturn, 1) := by decide +kernel
theorem dr_cJ8_newLength_cabcc_0 : decode cJ8_newLength_cabcc 0 = .ok (.iload_n 0, 1) := by decide +kernel
theorem dr_cJ8_newLength_cabcc_1 : decode cJ8_newLength_cabcc 1 = .ok (.iload_n 1, 1) := by decide +kernel
theorem dr_cJ8_newLength_cabcc_2 : decode cJ8_newLength_cabcc 2 = .ok (.iload_n 2, 1) := by decide +kernel
theorem dr_cJ8_newLength_cabcc_3 : decode cJ8_newLength_cabcc 3 = .ok (.invokestatic 194, 3) := by decide +kernel
theorem wr_8_15 : (Jvm.Cond.methodLink "jdk/internal/util/ArraysSupport" (194 : Nat) ({ cls := "java/lang/Math", name := "max", desc := "(II)I" } : Jvm.MethodName)) ∈ gw := gw_8 15 rfl rfl
theorem wr_1_140 : (Jvm.Cond.static ({ cls := "java/lang/Math", name := "max", desc := "(II)I" } : Jvm.MethodName)) ∈ gw := gw_1 140 rfl rfl
theorem wr_1_6 : (Jvm.Cond.initialized "java/lang/Math") ∈ gw := gw_1 6 rfl rfl
theorem wr_1_141 : (Jvm.Cond.code ({ cls := "java/lang/Math", name := "max", desc := "(II)I" } : Jvm.MethodName) prog_32_method_65_code (2 : Nat) (Option.some Jvm.ClassFile.FieldType.int)) ∈ gw := gw_1 141 rfl rfl
theorem dr_cJ8_newLength_cabcc_6 : decode cJ8_newLength_cabcc 6 = .ok (.iadd, 1) := by decide +kernel
theorem dr_cJ8_newLength_cabcc_7 : decode cJ8_newLength_cabcc 7 = .ok (.istore_n 3, 1) := by decide +kernel
theorem dr_cJ8_newLength_cabcc_8 : decode cJ8_newLength_cabcc 8 = .ok (.iconst 0, 1) := by decide +kernel
theorem dr_cJ8_newLength_cabcc_9 : decode cJ8_newLength_cabcc 9 = .ok (.iload_n 3, 1) := by decide +kernel
theorem dr_cJ8_newLength_cabcc_10 : decode cJ8_newLength_cabcc 10 = .ok (.if_icmp .ge 11, 3) := by decide +kernel
theorem dr_cJ8_newLength_cabcc_13 : decode cJ8_newLength_cabcc 13 = .ok (.iload_n 3, 1) := by decide +kernel
theorem dr_cJ8_newLength_cabcc_14 : decode cJ8_newLength_cabcc 14 = .ok (.ldc 200, 2) := by decide +kernel
theorem wr_8_16 : (Jvm.Cond.constant "jdk/internal/util/ArraysSupport" (200 : Nat) (2147483639 : Int32)) ∈ gw := gw_8 16 rfl rfl
theorem dr_cJ8_newLength_cabcc_16 : decode cJ8_newLength_cabcc 16 = .ok (.if_icmp .gt 5, 3) := by decide +kernel
theorem dr_cJ8_newLength_cabcc_19 : decode cJ8_newLength_cabcc 19 = .ok (.iload_n 3, 1) := by decide +kernel
theorem dr_cJ8_newLength_cabcc_20 : decode cJ8_newLength_cabcc 20 = .ok (.ireturn, 1) := by decide +kernel
theorem dr_cJ7_copyOf_6403c_0 : decode cJ7_copyOf_6403c 0 = .ok (.aload_n 2, 1) := by decide +kernel
theorem dr_cJ7_copyOf_6403c_1 : decode cJ7_copyOf_6403c 1 = .ok (.ldc 110, 2) := by decide +kernel
theorem wr_10_57 : (Jvm.Cond.classLink "java/util/Arrays" (110 : Nat) "[Ljava/lang/Object;") ∈ gw := gw_10 57 rfl rfl
theorem dr_cJ7_copyOf_6403c_3 : decode cJ7_copyOf_6403c 3 = .ok (.if_acmp .ne 10, 3) := by decide +kernel
theorem dr_cJ7_copyOf_6403c_6 : decode cJ7_copyOf_6403c 6 = .ok (.iload_n 1, 1) := by decide +kernel
theorem dr_cJ7_copyOf_6403c_7 : decode cJ7_copyOf_6403c 7 = .ok (.anewarray 2, 3) := by decide +kernel
theorem wr_10_59 : (Jvm.Cond.classLink "java/util/Arrays" (2 : Nat) "java/lang/Object") ∈ gw := gw_10 59 rfl rfl
theorem dr_cJ7_copyOf_6403c_10 : decode cJ7_copyOf_6403c 10 = .ok (.goto 14, 3) := by decide +kernel
theorem dr_cJ7_copyOf_6403c_24 : decode cJ7_copyOf_6403c 24 = .ok (.astore_n 3, 1) := by decide +kernel
theorem dr_cJ7_copyOf_6403c_25 : decode cJ7_copyOf_6403c 25 = .ok (.aload_n 0, 1) := by decide +kernel
theorem dr_cJ7_copyOf_6403c_26 : decode cJ7_copyOf_6403c 26 = .ok (.iconst 0, 1) := by decide +kernel
theorem dr_cJ7_copyOf_6403c_27 : decode cJ7_copyOf_6403c 27 = .ok (.aload_n 3, 1) := by decide +kernel
theorem dr_cJ7_copyOf_6403c_28 : decode cJ7_copyOf_6403c 28 = .ok (.iconst 0, 1) := by decide +kernel
theorem dr_cJ7_copyOf_6403c_29 : decode cJ7_copyOf_6403c 29 = .ok (.aload_n 0, 1) := by decide +kernel
theorem dr_cJ7_copyOf_6403c_30 : decode cJ7_copyOf_6403c 30 = .ok (.arraylength, 1) := by decide +kernel
theorem dr_cJ7_copyOf_6403c_31 : decode cJ7_copyOf_6403c 31 = .ok (.iload_n 1, 1) := by decide +kernel
theorem dr_cJ7_copyOf_6403c_32 : decode cJ7_copyOf_6403c 32 = .ok (.invokestatic 304, 3) := by decide +kernel
theorem wr_8_31 : (Jvm.Cond.methodLink "java/util/Arrays" (304 : Nat) ({ cls := "java/lang/Math", name := "min", desc := "(II)I" } : Jvm.MethodName)) ∈ gw := gw_8 31 rfl rfl
theorem wr_3_227 : (Jvm.Cond.static ({ cls := "java/lang/Math", name := "min", desc := "(II)I" } : Jvm.MethodName)) ∈ gw := gw_3 227 rfl rfl
theorem wr_3_228 : (Jvm.Cond.code ({ cls := "java/lang/Math", name := "min", desc := "(II)I" } : Jvm.MethodName) prog_32_method_69_code (2 : Nat) (Option.some Jvm.ClassFile.FieldType.int)) ∈ gw := gw_3 228 rfl rfl
theorem dr_cJ7_copyOf_6403c_35 : decode cJ7_copyOf_6403c 35 = .ok (.invokestatic 150, 3) := by decide +kernel
theorem wr_8_32 : (Jvm.Cond.methodLink "java/util/Arrays" (150 : Nat) ({ cls := "java/lang/System", name := "arraycopy", desc := "(Ljava/lang/Object;ILjava/lang/Object;II)V" } : Jvm.MethodName)) ∈ gw := gw_8 32 rfl rfl
theorem wr_5_113 : (Jvm.Cond.native ({ cls := "java/lang/System", name := "arraycopy", desc := "(Ljava/lang/Object;ILjava/lang/Object;II)V" } : Jvm.MethodName)) ∈ gw := gw_5 113 rfl rfl
theorem wr_5_112 : (Jvm.Cond.static ({ cls := "java/lang/System", name := "arraycopy", desc := "(Ljava/lang/Object;ILjava/lang/Object;II)V" } : Jvm.MethodName)) ∈ gw := gw_5 112 rfl rfl
theorem wr_1_34 : (Jvm.Cond.initialized "java/lang/System") ∈ gw := gw_1 34 rfl rfl
theorem dr_cJ7_copyOf_6403c_38 : decode cJ7_copyOf_6403c 38 = .ok (.aload_n 3, 1) := by decide +kernel
theorem dr_cJ7_copyOf_6403c_39 : decode cJ7_copyOf_6403c 39 = .ok (.areturn, 1) := by decide +kernel
theorem dr_cJ7_copyOf_1904c_0 : decode cJ7_copyOf_1904c 0 = .ok (.aload_n 0, 1) := by decide +kernel
theorem dr_cJ7_copyOf_1904c_1 : decode cJ7_copyOf_1904c 1 = .ok (.iload_n 1, 1) := by decide +kernel
theorem dr_cJ7_copyOf_1904c_2 : decode cJ7_copyOf_1904c 2 = .ok (.aload_n 0, 1) := by decide +kernel
theorem dr_cJ7_copyOf_1904c_3 : decode cJ7_copyOf_1904c 3 = .ok (.invokevirtual 86, 3) := by decide +kernel
theorem wr_10_23 : (Jvm.Cond.methodLink "java/util/Arrays" (86 : Nat) ({ cls := "java/lang/Object", name := "getClass", desc := "()Ljava/lang/Class;" } : Jvm.MethodName)) ∈ gw := gw_10 23 rfl rfl
theorem wr_12_1 : (Jvm.Cond.selects "[Ljava/lang/Object;" ({ cls := "java/lang/Object", name := "getClass", desc := "()Ljava/lang/Class;" } : Jvm.MethodName) ({ cls := "java/lang/Object", name := "getClass", desc := "()Ljava/lang/Class;" } : Jvm.MethodName)) ∈ gw := gw_12 1 rfl rfl
theorem wr_10_24 : (Jvm.Cond.instanceMethod ({ cls := "java/lang/Object", name := "getClass", desc := "()Ljava/lang/Class;" } : Jvm.MethodName)) ∈ gw := gw_10 24 rfl rfl
theorem wr_10_53 : (Jvm.Cond.native ({ cls := "java/lang/Object", name := "getClass", desc := "()Ljava/lang/Class;" } : Jvm.MethodName)) ∈ gw := gw_10 53 rfl rfl
theorem dr_cJ7_copyOf_1904c_6 : decode cJ7_copyOf_1904c 6 = .ok (.invokestatic 300, 3) := by decide +kernel
theorem wr_10_54 : (Jvm.Cond.methodLink "java/util/Arrays" (300 : Nat) ({ cls := "java/util/Arrays", name := "copyOf", desc := "([Ljava/lang/Object;ILjava/lang/Class;)[Ljava/lang/Object;" } : Jvm.MethodName)) ∈ gw := gw_10 54 rfl rfl
theorem wr_1_30 : (Jvm.Cond.initialized "java/util/Arrays") ∈ gw := gw_1 30 rfl rfl
theorem wr_10_56 : (Jvm.Cond.code ({ cls := "java/util/Arrays", name := "copyOf", desc := "([Ljava/lang/Object;ILjava/lang/Class;)[Ljava/lang/Object;" } : Jvm.MethodName) prog_44_method_120_code (4 : Nat) (Option.some (Jvm.ClassFile.FieldType.array (Jvm.ClassFile.FieldType.object "java/lang/Object")))) ∈ gw := gw_10 56 rfl rfl
theorem wr_10_55 : (Jvm.Cond.static ({ cls := "java/util/Arrays", name := "copyOf", desc := "([Ljava/lang/Object;ILjava/lang/Class;)[Ljava/lang/Object;" } : Jvm.MethodName)) ∈ gw := gw_10 55 rfl rfl
theorem dr_cJ7_copyOf_1904c_9 : decode cJ7_copyOf_1904c 9 = .ok (.areturn, 1) := by decide +kernel
theorem dr_cJx4a65c_grow_92f84_0 : decode cJx4a65c_grow_92f84 0 = .ok (.aload_n 0, 1) := by decide +kernel
theorem dr_cJx4a65c_grow_92f84_1 : decode cJx4a65c_grow_92f84 1 = .ok (.getfield 9, 3) := by decide +kernel
theorem dr_cJx4a65c_grow_92f84_4 : decode cJx4a65c_grow_92f84 4 = .ok (.arraylength, 1) := by decide +kernel
theorem dr_cJx4a65c_grow_92f84_5 : decode cJx4a65c_grow_92f84 5 = .ok (.istore_n 2, 1) := by decide +kernel
theorem dr_cJx4a65c_grow_92f84_6 : decode cJx4a65c_grow_92f84 6 = .ok (.iload_n 2, 1) := by decide +kernel
theorem dr_cJx4a65c_grow_92f84_7 : decode cJx4a65c_grow_92f84 7 = .ok (.ifCond .gt 13, 3) := by decide +kernel
theorem dr_cJx4a65c_grow_92f84_20 : decode cJx4a65c_grow_92f84 20 = .ok (.iload_n 2, 1) := by decide +kernel
theorem dr_cJx4a65c_grow_92f84_21 : decode cJx4a65c_grow_92f84 21 = .ok (.iload_n 1, 1) := by decide +kernel
theorem dr_cJx4a65c_grow_92f84_22 : decode cJx4a65c_grow_92f84 22 = .ok (.iload_n 2, 1) := by decide +kernel
theorem dr_cJx4a65c_grow_92f84_23 : decode cJx4a65c_grow_92f84 23 = .ok (.isub, 1) := by decide +kernel
theorem dr_cJx4a65c_grow_92f84_24 : decode cJx4a65c_grow_92f84 24 = .ok (.iload_n 2, 1) := by decide +kernel
theorem dr_cJx4a65c_grow_92f84_25 : decode cJx4a65c_grow_92f84 25 = .ok (.iconst 1, 1) := by decide +kernel
theorem dr_cJx4a65c_grow_92f84_26 : decode cJx4a65c_grow_92f84 26 = .ok (.ishr, 1) := by decide +kernel
theorem dr_cJx4a65c_grow_92f84_27 : decode cJx4a65c_grow_92f84 27 = .ok (.invokestatic 73, 3) := by decide +kernel
theorem wr_10_19 : (Jvm.Cond.methodLink "java/util/ArrayList" (73 : Nat) ({ cls := "jdk/internal/util/ArraysSupport", name := "newLength", desc := "(III)I" } : Jvm.MethodName)) ∈ gw := gw_10 19 rfl rfl
theorem wr_1_33 : (Jvm.Cond.initialized "jdk/internal/util/ArraysSupport") ∈ gw := gw_1 33 rfl rfl
theorem wr_8_14 : (Jvm.Cond.code ({ cls := "jdk/internal/util/ArraysSupport", name := "newLength", desc := "(III)I" } : Jvm.MethodName) prog_51_method_27_code (4 : Nat) (Option.some Jvm.ClassFile.FieldType.int)) ∈ gw := gw_8 14 rfl rfl
theorem wr_8_13 : (Jvm.Cond.static ({ cls := "jdk/internal/util/ArraysSupport", name := "newLength", desc := "(III)I" } : Jvm.MethodName)) ∈ gw := gw_8 13 rfl rfl
theorem dr_cJx4a65c_grow_92f84_30 : decode cJx4a65c_grow_92f84 30 = .ok (.istore_n 3, 1) := by decide +kernel
theorem dr_cJx4a65c_grow_92f84_31 : decode cJx4a65c_grow_92f84 31 = .ok (.aload_n 0, 1) := by decide +kernel
theorem dr_cJx4a65c_grow_92f84_32 : decode cJx4a65c_grow_92f84 32 = .ok (.aload_n 0, 1) := by decide +kernel
theorem dr_cJx4a65c_grow_92f84_33 : decode cJx4a65c_grow_92f84 33 = .ok (.getfield 9, 3) := by decide +kernel
theorem dr_cJx4a65c_grow_92f84_36 : decode cJx4a65c_grow_92f84 36 = .ok (.iload_n 3, 1) := by decide +kernel
theorem dr_cJx4a65c_grow_92f84_37 : decode cJx4a65c_grow_92f84 37 = .ok (.invokestatic 66, 3) := by decide +kernel
theorem wr_10_20 : (Jvm.Cond.methodLink "java/util/ArrayList" (66 : Nat) ({ cls := "java/util/Arrays", name := "copyOf", desc := "([Ljava/lang/Object;I)[Ljava/lang/Object;" } : Jvm.MethodName)) ∈ gw := gw_10 20 rfl rfl
theorem wr_10_22 : (Jvm.Cond.code ({ cls := "java/util/Arrays", name := "copyOf", desc := "([Ljava/lang/Object;I)[Ljava/lang/Object;" } : Jvm.MethodName) prog_44_method_119_code (2 : Nat) (Option.some (Jvm.ClassFile.FieldType.array (Jvm.ClassFile.FieldType.object "java/lang/Object")))) ∈ gw := gw_10 22 rfl rfl
theorem wr_10_21 : (Jvm.Cond.static ({ cls := "java/util/Arrays", name := "copyOf", desc := "([Ljava/lang/Object;I)[Ljava/lang/Object;" } : Jvm.MethodName)) ∈ gw := gw_10 21 rfl rfl
theorem dr_cJx4a65c_grow_92f84_40 : decode cJx4a65c_grow_92f84 40 = .ok (.dup_x1, 1) := by decide +kernel
theorem dr_cJx4a65c_grow_92f84_41 : decode cJx4a65c_grow_92f84 41 = .ok (.putfield 9, 3) := by decide +kernel
theorem dr_cJx4a65c_grow_92f84_44 : decode cJx4a65c_grow_92f84 44 = .ok (.areturn, 1) := by decide +kernel
theorem dr_cJx4a65c_grow_d5877_0 : decode cJx4a65c_grow_d5877 0 = .ok (.aload_n 0, 1) := by decide +kernel
theorem dr_cJx4a65c_grow_d5877_1 : decode cJx4a65c_grow_d5877 1 = .ok (.aload_n 0, 1) := by decide +kernel
theorem dr_cJx4a65c_grow_d5877_2 : decode cJx4a65c_grow_d5877 2 = .ok (.getfield 48, 3) := by decide +kernel
theorem dr_cJx4a65c_grow_d5877_5 : decode cJx4a65c_grow_d5877 5 = .ok (.iconst 1, 1) := by decide +kernel
theorem dr_cJx4a65c_grow_d5877_6 : decode cJx4a65c_grow_d5877 6 = .ok (.iadd, 1) := by decide +kernel
theorem dr_cJx4a65c_grow_d5877_7 : decode cJx4a65c_grow_d5877 7 = .ok (.invokevirtual 69, 3) := by decide +kernel
theorem wr_10_15 : (Jvm.Cond.methodLink "java/util/ArrayList" (69 : Nat) ({ cls := "java/util/ArrayList", name := "grow", desc := "(I)[Ljava/lang/Object;" } : Jvm.MethodName)) ∈ gw := gw_10 15 rfl rfl
theorem wr_10_18 : (Jvm.Cond.code ({ cls := "java/util/ArrayList", name := "grow", desc := "(I)[Ljava/lang/Object;" } : Jvm.MethodName) prog_43_method_6_code (4 : Nat) (Option.some (Jvm.ClassFile.FieldType.array (Jvm.ClassFile.FieldType.object "java/lang/Object")))) ∈ gw := gw_10 18 rfl rfl
theorem wr_10_17 : (Jvm.Cond.instanceMethod ({ cls := "java/util/ArrayList", name := "grow", desc := "(I)[Ljava/lang/Object;" } : Jvm.MethodName)) ∈ gw := gw_10 17 rfl rfl
theorem wr_p_87 : Cond.selects "java/util/ArrayList" ⟨"java/util/ArrayList", "grow", "(I)[Ljava/lang/Object;"⟩ ⟨"java/util/ArrayList", "grow", "(I)[Ljava/lang/Object;"⟩ ∈ gw := gw_p _ 87 rfl rfl rfl
theorem dr_cJx4a65c_grow_d5877_10 : decode cJx4a65c_grow_d5877 10 = .ok (.areturn, 1) := by decide +kernel
theorem dr_cJx4a65c_add_72be8_6 : decode cJx4a65c_add_72be8 6 = .ok (.aload_n 0, 1) := by decide +kernel
theorem dr_cJx4a65c_add_72be8_7 : decode cJx4a65c_add_72be8 7 = .ok (.invokevirtual 129, 3) := by decide +kernel
theorem wr_10_11 : (Jvm.Cond.methodLink "java/util/ArrayList" (129 : Nat) ({ cls := "java/util/ArrayList", name := "grow", desc := "()[Ljava/lang/Object;" } : Jvm.MethodName)) ∈ gw := gw_10 11 rfl rfl
theorem wr_10_14 : (Jvm.Cond.code ({ cls := "java/util/ArrayList", name := "grow", desc := "()[Ljava/lang/Object;" } : Jvm.MethodName) prog_43_method_7_code (1 : Nat) (Option.some (Jvm.ClassFile.FieldType.array (Jvm.ClassFile.FieldType.object "java/lang/Object")))) ∈ gw := gw_10 14 rfl rfl
theorem wr_10_13 : (Jvm.Cond.instanceMethod ({ cls := "java/util/ArrayList", name := "grow", desc := "()[Ljava/lang/Object;" } : Jvm.MethodName)) ∈ gw := gw_10 13 rfl rfl
theorem wr_p_86 : Cond.selects "java/util/ArrayList" ⟨"java/util/ArrayList", "grow", "()[Ljava/lang/Object;"⟩ ⟨"java/util/ArrayList", "grow", "()[Ljava/lang/Object;"⟩ ∈ gw := gw_p _ 86 rfl rfl rfl
theorem dr_cJx4a65c_add_72be8_10 : decode cJx4a65c_add_72be8 10 = .ok (.astore_n 2, 1) := by decide +kernel
abbrev ky_7_ArrayList_size : gKey := (cJx4a65c_size_8abf5, 1, "java/util/ArrayList", (some FieldType.int), [], "size", fun _ _ => True)
def pp_7_ArrayList_size (D : va_G) (I : FieldType → ClassId) (P1 : List Nat) (F2 : Nat → va_E) (q3 : Nat) (p4 : Int32) (qo5 : Nat) (p6 : Int32) : Option Value → va_W → Nat → Nat → Prop := fun r w dc ds => r = some (.int p6) ∧ w = va_pl P1 F2 ∧ dc ≤ 0 ∧ ds ≤ 0
set_option maxRecDepth 100000 in
set_option maxHeartbeats 4000000 in
theorem cp_7_ArrayList_size (l : Launch) (hl0 : l.stackTraces = false) (D : va_G) (I : FieldType → ClassId) (P1 : List Nat) (F2 : Nat → va_E) (q3 : Nat) (p4 : Int32) (qo5 : Nat) (p6 : Int32) (hmq3 : q3 ∈ P1) (heq3 : F2 q3 = .inr (4, [.int p4, .ref qo5, .int p6])) (bp6 : gB p6 0 16777216) : CtA (gV D I) l yJx4a65c_size_8abf5 cJx4a65c_size_8abf5 1 (some FieldType.int) 0 0 0 0 [.ref q3] (va_pl P1 F2) (pp_7_ArrayList_size D I P1 F2 q3 p4 qo5 p6) gNA := by
  refine CtA_ofF hl0 (by decide +kernel) (Nat.le_of_ble_eq_true rfl) ?_
  have bp4 := gB_any p4
  refine G_aload_n 0 dr_cJx4a65c_size_8abf5_0 rfl ?_
  refine Gp_get 2 hmq3 heq3 dr_cJx4a65c_size_8abf5_1 (gk_Jx4a65c D I) (Nat.le_of_ble_eq_true rfl) wr_7_18 rfl ?_
  exact G_iretA dr_cJx4a65c_size_8abf5_4 rfl (Nat.le_of_ble_eq_true rfl) (Nat.le_of_ble_eq_true rfl) ⟨rfl, rfl, (Nat.le_of_ble_eq_true rfl), (Nat.le_of_ble_eq_true rfl)⟩
/- tr_RPreconditions_checkIndex:  -/
def tr_RPreconditions_checkIndex (a0 : Int32) (a1 : Int32) : Prop := ∀ R : Prop,
  (a0.toInt < a1.toInt → R) →
  R
abbrev ky_34_Preconditions_checkIndex : gKey := (cJ3_checkIndex_8e157, 3, "jdk/internal/util/Preconditions", (some FieldType.int), [], "checkIndex", fun _ _ => True)
def pp_34_Preconditions_checkIndex (D : va_G) (I : FieldType → ClassId) (P29 : List Nat) (F30 : Nat → va_E) (p31 : Int32) (p32 : Int32) : Option Value → va_W → Nat → Nat → Prop := fun r w dc ds => r = some (.int p31) ∧ w = va_pl P29 F30 ∧ dc ≤ 0 ∧ ds ≤ 0 ∧ tr_RPreconditions_checkIndex p31 p32
set_option maxRecDepth 100000 in
set_option maxHeartbeats 4000000 in
theorem cp_34_Preconditions_checkIndex (l : Launch) (hl0 : l.stackTraces = false) (D : va_G) (I : FieldType → ClassId) (P29 : List Nat) (F30 : Nat → va_E) (p31 : Int32) (p32 : Int32) (bp31 : gB p31 0 16777216) (bp32 : gB p32 0 16777216) (x33 : p31.toInt < p32.toInt) : CtA (gV D I) l yJ3_checkIndex_8e157 cJ3_checkIndex_8e157 3 (some FieldType.int) 0 0 0 0 [.int p31, .int p32, .null] (va_pl P29 F30) (pp_34_Preconditions_checkIndex D I P29 F30 p31 p32) gNA := by
  refine CtA_ofF hl0 (by decide +kernel) (Nat.le_of_ble_eq_true rfl) ?_
  refine G_iload_n 0 dr_cJ3_checkIndex_8e157_0 rfl ?_
  refine G_if_lt 9 dr_cJ3_checkIndex_8e157_1 (by decide +kernel) (fun hc => absurd (show False by have := gj_lt hc (show Int32.toInt 0 = 0 by decide); omega) not_false) (fun _ => ?_)
  refine G_iload_n 0 dr_cJ3_checkIndex_8e157_4 rfl ?_
  refine G_iload_n 1 dr_cJ3_checkIndex_8e157_5 rfl ?_
  refine G_icmp_lt 16 dr_cJ3_checkIndex_8e157_6 (by decide +kernel) (fun hc35 => ?_) (fun hc35 => ?_)
  · have r36 : p31.toInt < p32.toInt := gC_lt hc35
    have bp31' : gB p31 0 16777215 := ⟨by omega, by omega⟩
    have bp32' : gB p32 1 16777216 := ⟨by omega, by omega⟩
    refine G_iload_n 0 dr_cJ3_checkIndex_8e157_16 rfl ?_
    exact G_iretA dr_cJ3_checkIndex_8e157_17 rfl (Nat.le_of_ble_eq_true rfl) (Nat.le_of_ble_eq_true rfl) ⟨rfl, rfl, (Nat.le_of_ble_eq_true rfl), (Nat.le_of_ble_eq_true rfl), (fun R c1 => c1 r36)⟩
  · have r37 : p32.toInt ≤ p31.toInt := gC_nlt hc35
    exact absurd (show False by omega) not_false
/- tr_RObjects_checkIndex:  -/
def tr_RObjects_checkIndex (a0 : Int32) (a1 : Int32) : Prop := ∀ R : Prop,
  (tr_RPreconditions_checkIndex a0 a1 → R) →
  R
abbrev ky_28_Objects_checkIndex : gKey := (cJ15_checkIndex_7cf53, 2, "java/util/Objects", (some FieldType.int), [], "checkIndex", fun _ _ => True)
def pp_28_Objects_checkIndex (D : va_G) (I : FieldType → ClassId) (P23 : List Nat) (F24 : Nat → va_E) (p25 : Int32) (p26 : Int32) : Option Value → va_W → Nat → Nat → Prop := fun r w dc ds => r = some (.int p25) ∧ w = va_pl P23 F24 ∧ dc ≤ 0 ∧ ds ≤ 0 ∧ tr_RObjects_checkIndex p25 p26
set_option maxRecDepth 100000 in
set_option maxHeartbeats 4000000 in
theorem cp_28_Objects_checkIndex (l : Launch) (hl0 : l.stackTraces = false) (D : va_G) (I : FieldType → ClassId) (P23 : List Nat) (F24 : Nat → va_E) (p25 : Int32) (p26 : Int32) (bp25 : gB p25 0 16777216) (bp26 : gB p26 0 16777216) (x27 : p25.toInt < p26.toInt) : CtA (gV D I) l yJ15_checkIndex_7cf53 cJ15_checkIndex_7cf53 2 (some FieldType.int) 1 22 0 0 [.int p25, .int p26] (va_pl P23 F24) (pp_28_Objects_checkIndex D I P23 F24 p25 p26) gNA := by
  refine CtA_ofF hl0 (by decide +kernel) (Nat.le_of_ble_eq_true rfl) ?_
  refine G_iload_n 0 dr_cJ15_checkIndex_7cf53_0 rfl ?_
  refine G_iload_n 1 dr_cJ15_checkIndex_7cf53_1 rfl ?_
  refine G_null dr_cJ15_checkIndex_7cf53_2 ?_
  refine Gw_callS (As := [.int p25, .int p26, .null]) (gV_ok D I) (cp_34_Preconditions_checkIndex l hl0 D I P23 F24 p25 p26 bp25 bp26 (by omega)) dr_cJ15_checkIndex_7cf53_3 ⟨wr_10_69, wr_1_29, wr_3_85, by decide, rfl, (Nat.le_of_ble_eq_true rfl), (Nat.le_of_ble_eq_true rfl)⟩ wr_3_84 (show 0 + 0 ≤ 0 by first | omega | decide) (show 0 + 0 ≤ 0 by first | omega | decide) (Nat.le_of_ble_eq_true rfl) (fun r41 w42 dc38 ds39 hp40 => ?_) (fun _ _ _ _ _ z => z.elim)
  obtain ⟨rfl, rfl, hdc, hds, ht43⟩ := hp40
  change G _ _ _ _ _ _ _ (.int p25 :: _) _ _ _
  refine G_widen (cs' := 0) (sl' := 0) (by omega) (by omega) ?_
  exact G_iretA dr_cJ15_checkIndex_7cf53_6 rfl (Nat.le_of_ble_eq_true rfl) (Nat.le_of_ble_eq_true rfl) ⟨rfl, rfl, (Nat.le_of_ble_eq_true rfl), (Nat.le_of_ble_eq_true rfl), (fun R c1 => c1 ht43)⟩
abbrev ky_63_ArrayList_elementData : gKey := (cJx4a65c_elementData_915e3, 2, "java/util/ArrayList", (some (FieldType.object "java/lang/Object")), [], "elementData", fun _ _ => True)
def pp_63_ArrayList_elementData (D : va_G) (I : FieldType → ClassId) (P50 : List Nat) (F51 : Nat → va_E) (q52 : Nat) (q53 : Nat) (p54 : Int32) (p55 : Int32) (p56 : Int32) (f57 : Nat → Option Nat) (n58 : Nat) (x59 : Nat) : Option Value → va_W → Nat → Nat → Prop := fun r w dc ds => r = some (.ref x59) ∧ w = va_pl P50 F51 ∧ dc ≤ 0 ∧ ds ≤ 0
set_option maxRecDepth 100000 in
set_option maxHeartbeats 4000000 in
theorem cp_63_ArrayList_elementData (l : Launch) (hl0 : l.stackTraces = false) (D : va_G) (I : FieldType → ClassId) (P50 : List Nat) (F51 : Nat → va_E) (q52 : Nat) (q53 : Nat) (p54 : Int32) (p55 : Int32) (p56 : Int32) (f57 : Nat → Option Nat) (n58 : Nat) (x59 : Nat) (hmq52 : q52 ∈ P50) (hmq53 : q53 ∈ P50) (heq52 : F51 q52 = .inr (4, [.int p55, .ref q53, .int p56])) (heq53 : F51 q53 = .inl (I (.object "java/lang/Object"), n58, .inr (.inr (.inr (.inr f57))))) (bp54 : gB p54 0 16777216) (bp56 : gB p56 0 16777216) (x60 : p54.toInt < (n58 : Int)) (x61 : f57 p54.toNatClampNeg = some x59) (x62 : ((n58 : Int) ≤ 16777216)) : CtA (gV D I) l yJx4a65c_elementData_915e3 cJx4a65c_elementData_915e3 2 (some (FieldType.object "java/lang/Object")) 0 0 0 0 [.ref q52, .int p54] (va_pl P50 F51) (pp_63_ArrayList_elementData D I P50 F51 q52 q53 p54 p55 p56 f57 n58 x59) gNA := by
  refine CtA_ofF hl0 (by decide +kernel) (Nat.le_of_ble_eq_true rfl) ?_
  have bp55 := gB_any p55
  refine G_aload_n 0 dr_cJx4a65c_elementData_915e3_0 rfl ?_
  refine Gp_get 1 hmq52 heq52 dr_cJx4a65c_elementData_915e3_1 (gk_Jx4a65c D I) (Nat.le_of_ble_eq_true rfl) wr_7_17 rfl ?_
  refine G_iload_n 1 dr_cJx4a65c_elementData_915e3_4 rfl ?_
  refine Gp_aald 4 hmq53 heq53 dr_cJx4a65c_elementData_915e3_5 rfl rfl (gB_inr (by omega) (by omega)) ?_
  rw [x61]
  change G _ _ _ _ _ _ _ (.ref x59 :: _) _ _ _
  exact G_aretA (FieldType.object "java/lang/Object") dr_cJx4a65c_elementData_915e3_6 rfl (by first | exact Or.inl ⟨_, rfl⟩ | exact Or.inr ⟨_, rfl⟩) (Or.inr ⟨_, rfl⟩) (Nat.le_of_ble_eq_true rfl) (Nat.le_of_ble_eq_true rfl) ⟨rfl, rfl, (Nat.le_of_ble_eq_true rfl), (Nat.le_of_ble_eq_true rfl)⟩
/- tr_RArrayList_get:  -/
def tr_RArrayList_get (a1 : Int32) (a0_size : Int32) : Prop := ∀ R : Prop,
  (tr_RObjects_checkIndex a1 a0_size → R) →
  R
abbrev ky_22_ArrayList_get : gKey := (cJx4a65c_get_915e3, 2, "java/util/ArrayList", (some (FieldType.object "java/lang/Object")), [], "get", fun _ _ => True)
def pp_22_ArrayList_get (D : va_G) (I : FieldType → ClassId) (P8 : List Nat) (F9 : Nat → va_E) (q10 : Nat) (q11 : Nat) (p12 : Int32) (p13 : Int32) (p14 : Int32) (f15 : Nat → Option Nat) (n16 : Nat) (x17 : Nat) : Option Value → va_W → Nat → Nat → Prop := fun r w dc ds => r = some (.ref x17) ∧ w = va_pl P8 F9 ∧ dc ≤ 0 ∧ ds ≤ 0 ∧ tr_RArrayList_get p12 p14
set_option maxRecDepth 100000 in
set_option maxHeartbeats 4000000 in
theorem cp_22_ArrayList_get (l : Launch) (hl0 : l.stackTraces = false) (D : va_G) (I : FieldType → ClassId) (P8 : List Nat) (F9 : Nat → va_E) (q10 : Nat) (q11 : Nat) (p12 : Int32) (p13 : Int32) (p14 : Int32) (f15 : Nat → Option Nat) (n16 : Nat) (x17 : Nat) (hmq10 : q10 ∈ P8) (hmq11 : q11 ∈ P8) (heq10 : F9 q10 = .inr (4, [.int p13, .ref q11, .int p14])) (heq11 : F9 q11 = .inl (I (.object "java/lang/Object"), n16, .inr (.inr (.inr (.inr f15))))) (bp12 : gB p12 0 16777216) (bp14 : gB p14 0 16777216) (x18 : p12.toInt < p14.toInt) (x19 : p14.toInt ≤ (n16 : Int)) (x20 : f15 p12.toNatClampNeg = some x17) (x21 : ((n16 : Int) ≤ 16777216)) : CtA (gV D I) l yJx4a65c_get_915e3 cJx4a65c_get_915e3 2 (some (FieldType.object "java/lang/Object")) 2 43 0 0 [.ref q10, .int p12] (va_pl P8 F9) (pp_22_ArrayList_get D I P8 F9 q10 q11 p12 p13 p14 f15 n16 x17) gNA := by
  refine CtA_ofF hl0 (by decide +kernel) (Nat.le_of_ble_eq_true rfl) ?_
  have bp13 := gB_any p13
  refine G_iload_n 1 dr_cJx4a65c_get_915e3_0 rfl ?_
  refine G_aload_n 0 dr_cJx4a65c_get_915e3_1 rfl ?_
  refine Gp_get 2 hmq10 heq10 dr_cJx4a65c_get_915e3_2 (gk_Jx4a65c D I) (Nat.le_of_ble_eq_true rfl) wr_7_18 rfl ?_
  refine Gw_callS (As := [.int p12, .int p14]) (gV_ok D I) (cp_28_Objects_checkIndex l hl0 D I P8 F9 p12 p14 bp12 bp14 (by omega)) dr_cJx4a65c_get_915e3_5 ⟨wr_10_66, wr_1_40, wr_10_68, by decide, rfl, (Nat.le_of_ble_eq_true rfl), (Nat.le_of_ble_eq_true rfl)⟩ wr_10_67 (show 0 + 0 ≤ 0 by first | omega | decide) (show 0 + 0 ≤ 0 by first | omega | decide) (Nat.le_of_ble_eq_true rfl) (fun r47 w48 dc44 ds45 hp46 => ?_) (fun _ _ _ _ _ z => z.elim)
  obtain ⟨rfl, rfl, hdc, hds, ht49⟩ := hp46
  change G _ _ _ _ _ _ _ (.int p12 :: _) _ _ _
  refine G_widen (cs' := 0) (sl' := 0) (by omega) (by omega) ?_
  refine G_pop dr_cJx4a65c_get_915e3_8 rfl ?_
  refine G_aload_n 0 dr_cJx4a65c_get_915e3_9 rfl ?_
  refine G_iload_n 1 dr_cJx4a65c_get_915e3_10 rfl ?_
  refine Gw_callV (As := [.int p12]) (gV_ok D I) (cp_63_ArrayList_elementData l hl0 D I P8 F9 q10 q11 p12 p13 p14 f15 n16 x17 hmq10 hmq11 heq10 heq11 bp12 bp14 (by omega) (by assumption) (by omega)) dr_cJx4a65c_get_915e3_11 ⟨wr_10_70, wr_1_18, wr_10_73, by decide, rfl, (Nat.le_of_ble_eq_true rfl), (Nat.le_of_ble_eq_true rfl)⟩ wr_10_71 wr_10_72 hmq10 heq10 rfl (show 0 + 0 ≤ 0 by first | omega | decide) (show 0 + 0 ≤ 0 by first | omega | decide) (Nat.le_of_ble_eq_true rfl) (fun r67 w68 dc64 ds65 hp66 => ?_) (fun _ _ _ _ _ z => z.elim)
  obtain ⟨rfl, rfl, hdc, hds⟩ := hp66
  change G _ _ _ _ _ _ _ (.ref x17 :: _) _ _ _
  refine G_widen (cs' := 0) (sl' := 0) (by omega) (by omega) ?_
  exact G_aretA (FieldType.object "java/lang/Object") dr_cJx4a65c_get_915e3_14 rfl (by first | exact Or.inl ⟨_, rfl⟩ | exact Or.inr ⟨_, rfl⟩) (Or.inr ⟨_, rfl⟩) (Nat.le_of_ble_eq_true rfl) (Nat.le_of_ble_eq_true rfl) ⟨rfl, rfl, (Nat.le_of_ble_eq_true rfl), (Nat.le_of_ble_eq_true rfl), (fun R c1 => c1 ht49)⟩
abbrev ky_118_ArrayList_add : gKey := (cJx4a65c_add_72be8, 4, "java/util/ArrayList", none, [], "add", fun _ _ => True)
def pp_118_ArrayList_add (D : va_G) (I : FieldType → ClassId) (P97 : List Nat) (F98 : Nat → va_E) (q99 : Nat) (q100 : Nat) (q101 : Nat) (p102 : Int32) (p103 : Int32) (p104 : Int32) (p105 : Int32) (p106 : Int32) (p107 : Int32) (p108 : Int32) (p109 : Int32) (p110 : Int32) (p111 : Int32) (f112 : Nat → Option Nat) (n113 : Nat) : Option Value → va_W → Nat → Nat → Prop := fun r w dc ds => ∃ (F142 : Nat → va_E) (o139 : Int32) (f140 : Nat → Option Nat), r = none ∧ w = va_pl P97 F142 ∧ rFr [q99, q101] P97 F98 F142 ∧ F142 q99 = .inr (4, [.int p103, .ref q101, .int o139]) ∧ F142 q100 = .inr (20, [.int p105, .int p106, .int p107, .int p108, .int p109, .int p110, .int p111]) ∧ F142 q101 = .inl (I (.object "java/lang/Object"), n113, .inr (.inr (.inr (.inr f140)))) ∧ dc ≤ 0 ∧ ds ≤ 0 ∧ gB o139 1 16777217 ∧ o139.toInt = p104.toInt + 1 ∧ ((∀ j : Nat, (j : Int) < p104.toInt → f140 j = f112 j) ∧ f140 p102.toInt.toNat = some q100) ∧ rSrcX f140 f112 q100
set_option maxRecDepth 100000 in
set_option maxHeartbeats 4000000 in
theorem cp_118_ArrayList_add (l : Launch) (hl0 : l.stackTraces = false) (D : va_G) (I : FieldType → ClassId) (P97 : List Nat) (F98 : Nat → va_E) (q99 : Nat) (q100 : Nat) (q101 : Nat) (p102 : Int32) (p103 : Int32) (p104 : Int32) (p105 : Int32) (p106 : Int32) (p107 : Int32) (p108 : Int32) (p109 : Int32) (p110 : Int32) (p111 : Int32) (f112 : Nat → Option Nat) (n113 : Nat) (hmq99 : q99 ∈ P97) (hmq100 : q100 ∈ P97) (hmq101 : q101 ∈ P97) (heq99 : F98 q99 = .inr (4, [.int p103, .ref q101, .int p104])) (heq100 : F98 q100 = .inr (20, [.int p105, .int p106, .int p107, .int p108, .int p109, .int p110, .int p111])) (heq101 : F98 q101 = .inl (I (.object "java/lang/Object"), n113, .inr (.inr (.inr (.inr f112))))) (bp102 : gB p102 0 16777216) (bp104 : gB p104 0 16777216) (bp105 : gB p105 0 32) (bp106 : gB p106 0 1999) (bp109 : gB p109 0 1999) (bp110 : gB p110 0 1) (bp111 : gB p111 0 1) (x114 : p104.toInt < (n113 : Int)) (x115 : p102.toInt = p104.toInt) (x116 : rEl P97 F98 f112) (x117 : ((n113 : Int) ≤ 16777216)) : CtA (gV D I) l yJx4a65c_add_72be8 cJx4a65c_add_72be8 4 none 0 0 0 0 [.ref q99, .ref q100, .ref q101, .int p102] (va_pl P97 F98) (pp_118_ArrayList_add D I P97 F98 q99 q100 q101 p102 p103 p104 p105 p106 p107 p108 p109 p110 p111 f112 n113) gNA := by
  refine CtA_ofF hl0 (by decide +kernel) (Nat.le_of_ble_eq_true rfl) ?_
  have bp103 := gB_any p103
  have bp107 := gB_any p107
  have bp108 := gB_any p108
  refine G_iload_n 3 dr_cJx4a65c_add_72be8_0 rfl ?_
  refine G_aload_n 2 dr_cJx4a65c_add_72be8_1 rfl ?_
  refine Gp_alen (Int32.ofNat n113) 4 hmq101 heq101 dr_cJx4a65c_add_72be8_2 rfl rfl (G_nam fun z119 hz119 => ?_)
  have ez119 : z119.toInt = (n113 : Nat) := gI_ofM hz119 (by omega)
  have bz119 : gB z119 0 16777216 := ⟨by omega, by omega⟩
  refine G_icmp_ne 11 dr_cJx4a65c_add_72be8_3 (by decide +kernel) (fun hc120 => ?_) (fun hc => absurd (show False by have := gC_eq hc; omega) not_false)
  have r122 : p102.toInt ≠ z119.toInt := gC_ne hc120
  refine G_aload_n 2 dr_cJx4a65c_add_72be8_11 rfl ?_
  refine G_iload_n 3 dr_cJx4a65c_add_72be8_12 rfl ?_
  refine G_aload_n 1 dr_cJx4a65c_add_72be8_13 rfl ?_
  refine Gp_aast 4 hmq101 heq101 dr_cJx4a65c_add_72be8_14 rfl ⟨hmq100, _, _, _, _, _, heq100, rfl, gr_cast 3 rfl⟩ (gB_inr (by omega) (by omega)) (fun F123 e124 n125 => ?_)
  obtain ⟨f126, hf126⟩ : ∃ z, z = va_up f112 p102.toNatClampNeg (some q100) := ⟨_, rfl⟩
  rw [← hf126] at e124
  have he127 : F123 q99 = .inr (4, [.int p103, .ref q101, .int p104]) := (n125 q99 (rn_oa heq99 heq101)).trans heq99
  have he128 : F123 q100 = .inr (20, [.int p105, .int p106, .int p107, .int p108, .int p109, .int p110, .int p111]) := (n125 q100 (rn_oa heq100 heq101)).trans heq100
  have he129 : F123 q101 = .inl (I (.object "java/lang/Object"), n113, .inr (.inr (.inr (.inr f126)))) := e124
  have hfr130 : rFr [q101] P97 F98 F123 := rFr_put (rFr_rf (W := []) (P := P97) (F := F98)) n125
  refine G_aload_n 0 dr_cJx4a65c_add_72be8_15 rfl ?_
  refine G_iload_n 3 dr_cJx4a65c_add_72be8_16 rfl ?_
  refine G_iconst 1 dr_cJx4a65c_add_72be8_17 (by decide +kernel) ?_
  refine G_iadd dr_cJx4a65c_add_72be8_18 (G_nam fun z131 hz131 => ?_)
  have ez131 : z131.toInt = p102.toInt + 1 := by rw [gI_add hz131 bp102 (gBl (show Int32.toInt 1 = 1 by decide)) (by decide) (by decide), show Int32.toInt 1 = 1 from by decide]
  have bz131 : gB z131 1 16777217 := gB_add (gI_add hz131 bp102 (gBl (show Int32.toInt 1 = 1 by decide)) (by decide) (by decide)) bp102 (gBl (show Int32.toInt 1 = 1 by decide)) (by decide) (by decide)
  refine Gp_put 2 hmq99 he127 dr_cJx4a65c_add_72be8_19 (gk_Jx4a65c D I) (Nat.le_of_ble_eq_true rfl) wr_7_18 rfl rfl rfl (Nat.le_of_ble_eq_true rfl) (fun F132 e133 n134 => ?_)
  have he135 : F132 q100 = .inr (20, [.int p105, .int p106, .int p107, .int p108, .int p109, .int p110, .int p111]) := (n134 q100 (rn_oo he128 he127 (by decide))).trans he128
  have he136 : F132 q101 = .inl (I (.object "java/lang/Object"), n113, .inr (.inr (.inr (.inr f126)))) := (n134 q101 (rn_ao he129 he127)).trans he129
  have he137 : F132 q99 = .inr (4, [.int p103, .ref q101, .int z131]) := e133
  have hfr138 : rFr [q99, q101] P97 F98 F132 := rFr_put hfr130 n134
  exact G_vretA dr_cJx4a65c_add_72be8_22 rfl (Nat.le_of_ble_eq_true rfl) (Nat.le_of_ble_eq_true rfl) ⟨F132, z131, f126, rfl, rfl, hfr138, he137, he135, he136, (Nat.le_of_ble_eq_true rfl), (Nat.le_of_ble_eq_true rfl), bz131, (by omega), (rI_add (fun _ _ => rfl) hf126 (by omega) (by omega)), (rSrcX_up hf126 rSrc_rf)⟩
abbrev ky_88_ArrayList_add : gKey := (cJx4a65c_add_9ea2d, 2, "java/util/ArrayList", (some FieldType.boolean), [], "add", fun _ _ => True)
def pp_88_ArrayList_add (D : va_G) (I : FieldType → ClassId) (P69 : List Nat) (F70 : Nat → va_E) (q71 : Nat) (q72 : Nat) (q73 : Nat) (p74 : Int32) (p75 : Int32) (p76 : Int32) (p77 : Int32) (p78 : Int32) (p79 : Int32) (p80 : Int32) (p81 : Int32) (p82 : Int32) (f83 : Nat → Option Nat) (n84 : Nat) : Option Value → va_W → Nat → Nat → Prop := fun r w dc ds => ∃ (F164 : Nat → va_E) (o160 : Int32) (o161 : Int32) (f162 : Nat → Option Nat), r = some (.int 1) ∧ w = va_pl P69 F164 ∧ rFr [q71, q73] P69 F70 F164 ∧ F164 q71 = .inr (4, [.int o160, .ref q73, .int o161]) ∧ F164 q72 = .inr (20, [.int p76, .int p77, .int p78, .int p79, .int p80, .int p81, .int p82]) ∧ F164 q73 = .inl (I (.object "java/lang/Object"), n84, .inr (.inr (.inr (.inr f162)))) ∧ dc ≤ 0 ∧ ds ≤ 0 ∧ gB o161 1 16777217 ∧ o161.toInt = p75.toInt + 1 ∧ ((∀ j : Nat, (j : Int) < p75.toInt → f162 j = f83 j) ∧ f162 p75.toInt.toNat = some q72) ∧ rSrcX f162 f83 q72
set_option maxRecDepth 100000 in
set_option maxHeartbeats 4000000 in
theorem cp_88_ArrayList_add (l : Launch) (hl0 : l.stackTraces = false) (D : va_G) (I : FieldType → ClassId) (P69 : List Nat) (F70 : Nat → va_E) (q71 : Nat) (q72 : Nat) (q73 : Nat) (p74 : Int32) (p75 : Int32) (p76 : Int32) (p77 : Int32) (p78 : Int32) (p79 : Int32) (p80 : Int32) (p81 : Int32) (p82 : Int32) (f83 : Nat → Option Nat) (n84 : Nat) (hmq71 : q71 ∈ P69) (hmq72 : q72 ∈ P69) (hmq73 : q73 ∈ P69) (heq71 : F70 q71 = .inr (4, [.int p74, .ref q73, .int p75])) (heq72 : F70 q72 = .inr (20, [.int p76, .int p77, .int p78, .int p79, .int p80, .int p81, .int p82])) (heq73 : F70 q73 = .inl (I (.object "java/lang/Object"), n84, .inr (.inr (.inr (.inr f83))))) (bp75 : gB p75 0 16777216) (bp76 : gB p76 0 32) (bp77 : gB p77 0 1999) (bp80 : gB p80 0 1999) (bp81 : gB p81 0 1) (bp82 : gB p82 0 1) (x85 : p75.toInt < (n84 : Int)) (x86 : rEl P69 F70 f83) (x87 : ((n84 : Int) ≤ 16777216)) : CtA (gV D I) l yJx4a65c_add_9ea2d cJx4a65c_add_9ea2d 2 (some FieldType.boolean) 1 23 0 0 [.ref q71, .ref q72] (va_pl P69 F70) (pp_88_ArrayList_add D I P69 F70 q71 q72 q73 p74 p75 p76 p77 p78 p79 p80 p81 p82 f83 n84) gNA := by
  refine CtA_ofF hl0 (by decide +kernel) (Nat.le_of_ble_eq_true rfl) ?_
  have bp74 := gB_any p74
  have bp78 := gB_any p78
  have bp79 := gB_any p79
  refine G_aload_n 0 dr_cJx4a65c_add_9ea2d_0 rfl ?_
  refine G_dup dr_cJx4a65c_add_9ea2d_1 rfl ?_
  refine Gp_getS 0 hmq71 heq71 dr_cJx4a65c_add_9ea2d_2 (gk_Jx4a65c D I) (Nat.le_of_ble_eq_true rfl) wr_7_20 wr_7_21 rfl ?_
  refine G_iconst 1 dr_cJx4a65c_add_9ea2d_5 (by decide +kernel) ?_
  refine G_iadd dr_cJx4a65c_add_9ea2d_6 (G_nam fun z89 hz89 => ?_)
  have bz89 : gB z89 (-2147483648) 2147483647 := gB_any z89
  refine Gp_putS 0 hmq71 heq71 dr_cJx4a65c_add_9ea2d_7 (gk_Jx4a65c D I) (Nat.le_of_ble_eq_true rfl) wr_7_20 wr_7_21 rfl rfl rfl (Nat.le_of_ble_eq_true rfl) (fun F90 e91 n92 => ?_)
  have he93 : F90 q72 = .inr (20, [.int p76, .int p77, .int p78, .int p79, .int p80, .int p81, .int p82]) := (n92 q72 (rn_oo heq72 heq71 (by decide))).trans heq72
  have he94 : F90 q73 = .inl (I (.object "java/lang/Object"), n84, .inr (.inr (.inr (.inr f83)))) := (n92 q73 (rn_ao heq73 heq71)).trans heq73
  have he95 : F90 q71 = .inr (4, [.int z89, .ref q73, .int p75]) := e91
  have hfr96 : rFr [q71] P69 F70 F90 := rFr_put (rFr_rf (W := []) (P := P69) (F := F70)) n92
  refine G_aload_n 0 dr_cJx4a65c_add_9ea2d_10 rfl ?_
  refine G_aload_n 1 dr_cJx4a65c_add_9ea2d_11 rfl ?_
  refine G_aload_n 0 dr_cJx4a65c_add_9ea2d_12 rfl ?_
  refine Gp_get 1 hmq71 he95 dr_cJx4a65c_add_9ea2d_13 (gk_Jx4a65c D I) (Nat.le_of_ble_eq_true rfl) wr_7_17 rfl ?_
  refine G_aload_n 0 dr_cJx4a65c_add_9ea2d_16 rfl ?_
  refine Gp_get 2 hmq71 he95 dr_cJx4a65c_add_9ea2d_17 (gk_Jx4a65c D I) (Nat.le_of_ble_eq_true rfl) wr_7_18 rfl ?_
  refine Gw_callV (As := [.ref q72, .ref q73, .int p75]) (gV_ok D I) (cp_118_ArrayList_add l hl0 D I P69 F90 q71 q72 q73 p75 z89 p75 p76 p77 p78 p79 p80 p81 p82 f83 n84 hmq71 hmq72 hmq73 he95 he93 he94 bp75 bp75 bp76 bp77 bp80 bp81 bp82 (by omega) (by omega) (rEl_frG (rEl_src x86 rSrc_rf) (rSub_rf (P := P69)) hfr96 (rNg_c (rNg_o heq71 (by decide) (by decide)) rNg_n)) (by omega)) dr_cJx4a65c_add_9ea2d_20 ⟨wr_10_7, wr_1_18, wr_10_10, by decide, rfl, (Nat.le_of_ble_eq_true rfl), (Nat.le_of_ble_eq_true rfl)⟩ wr_10_9 wr_p_85 hmq71 he95 rfl (show 0 + 0 ≤ 0 by first | omega | decide) (show 0 + 0 ≤ 0 by first | omega | decide) (Nat.le_of_ble_eq_true rfl) (fun r146 w147 dc143 ds144 hp145 => ?_) (fun _ _ _ _ _ z => z.elim)
  obtain ⟨F153, o148, f149, rfl, rfl, hfr155, he156, he157, he158, hdc, hds, bo148, x150, x151, x152⟩ := hp145
  have hfr159 : rFr [q71, q73] P69 F70 F153 := rFr_call (rSub_rf (P := P69)) hfr96 hfr155 (fun b hb hn => ⟨(nm_c (fun e => hn (e ▸ List.mem_cons_self)) nm_n), (nm_c (fun e => hn (e ▸ List.mem_cons_self)) (nm_c (fun e => hn (e ▸ (List.mem_cons_of_mem _ List.mem_cons_self))) nm_n))⟩)
  change G _ _ _ _ _ _ _ _ _ _ _
  refine G_widen (cs' := 0) (sl' := 0) (by omega) (by omega) ?_
  refine G_iconst 1 dr_cJx4a65c_add_9ea2d_23 (by decide +kernel) ?_
  exact G_zretA FieldType.boolean dr_cJx4a65c_add_9ea2d_24 rfl rfl (Nat.le_of_ble_eq_true rfl) (Nat.le_of_ble_eq_true rfl) ⟨F153, z89, o148, f149, rfl, rfl, hfr159, he156, he157, he158, (Nat.le_of_ble_eq_true rfl), (Nat.le_of_ble_eq_true rfl), bo148, (by omega), (by assumption), (by assumption)⟩
abbrev ky_208_ArrayList_add : gKey := (cJx4a65c_add_72be8, 4, "java/util/ArrayList", none, [], "add", fun _ _ => True)
def pp_208_ArrayList_add (D : va_G) (I : FieldType → ClassId) (P190 : List Nat) (F191 : Nat → va_E) (q192 : Nat) (q193 : Nat) (q194 : Nat) (p195 : Int32) (p196 : Int32) (p197 : Int32) (qo198 : Nat) (qo199 : Nat) (p200 : Int32) (p201 : Int32) (f202 : Nat → Option Nat) (n203 : Nat) : Option Value → va_W → Nat → Nat → Prop := fun r w dc ds => ∃ (F232 : Nat → va_E) (o229 : Int32) (f230 : Nat → Option Nat), r = none ∧ w = va_pl P190 F232 ∧ rFr [q192, q194] P190 F191 F232 ∧ F232 q192 = .inr (4, [.int p196, .ref q194, .int o229]) ∧ F232 q193 = .inr (17, [.ref qo198, .ref qo199, .int p200, .int p201]) ∧ F232 q194 = .inl (I (.object "java/lang/Object"), n203, .inr (.inr (.inr (.inr f230)))) ∧ dc ≤ 0 ∧ ds ≤ 0 ∧ gB o229 1 16777217 ∧ o229.toInt = p197.toInt + 1 ∧ ((∀ j : Nat, (j : Int) < p197.toInt → f230 j = f202 j) ∧ f230 p195.toInt.toNat = some q193) ∧ rSrcX f230 f202 q193
set_option maxRecDepth 100000 in
set_option maxHeartbeats 4000000 in
theorem cp_208_ArrayList_add (l : Launch) (hl0 : l.stackTraces = false) (D : va_G) (I : FieldType → ClassId) (P190 : List Nat) (F191 : Nat → va_E) (q192 : Nat) (q193 : Nat) (q194 : Nat) (p195 : Int32) (p196 : Int32) (p197 : Int32) (qo198 : Nat) (qo199 : Nat) (p200 : Int32) (p201 : Int32) (f202 : Nat → Option Nat) (n203 : Nat) (hmq192 : q192 ∈ P190) (hmq193 : q193 ∈ P190) (hmq194 : q194 ∈ P190) (heq192 : F191 q192 = .inr (4, [.int p196, .ref q194, .int p197])) (heq193 : F191 q193 = .inr (17, [.ref qo198, .ref qo199, .int p200, .int p201])) (heq194 : F191 q194 = .inl (I (.object "java/lang/Object"), n203, .inr (.inr (.inr (.inr f202))))) (bp195 : gB p195 0 16777216) (bp197 : gB p197 0 16777216) (bp200 : gB p200 0 39) (bp201 : gB p201 0 39) (x204 : p197.toInt < (n203 : Int)) (x205 : p195.toInt = p197.toInt) (x206 : rEl P190 F191 f202) (x207 : ((n203 : Int) ≤ 16777216)) : CtA (gV D I) l yJx4a65c_add_72be8 cJx4a65c_add_72be8 4 none 0 0 0 0 [.ref q192, .ref q193, .ref q194, .int p195] (va_pl P190 F191) (pp_208_ArrayList_add D I P190 F191 q192 q193 q194 p195 p196 p197 qo198 qo199 p200 p201 f202 n203) gNA := by
  refine CtA_ofF hl0 (by decide +kernel) (Nat.le_of_ble_eq_true rfl) ?_
  have bp196 := gB_any p196
  refine G_iload_n 3 dr_cJx4a65c_add_72be8_0 rfl ?_
  refine G_aload_n 2 dr_cJx4a65c_add_72be8_1 rfl ?_
  refine Gp_alen (Int32.ofNat n203) 4 hmq194 heq194 dr_cJx4a65c_add_72be8_2 rfl rfl (G_nam fun z209 hz209 => ?_)
  have ez209 : z209.toInt = (n203 : Nat) := gI_ofM hz209 (by omega)
  have bz209 : gB z209 0 16777216 := ⟨by omega, by omega⟩
  refine G_icmp_ne 11 dr_cJx4a65c_add_72be8_3 (by decide +kernel) (fun hc210 => ?_) (fun hc => absurd (show False by have := gC_eq hc; omega) not_false)
  have r212 : p195.toInt ≠ z209.toInt := gC_ne hc210
  refine G_aload_n 2 dr_cJx4a65c_add_72be8_11 rfl ?_
  refine G_iload_n 3 dr_cJx4a65c_add_72be8_12 rfl ?_
  refine G_aload_n 1 dr_cJx4a65c_add_72be8_13 rfl ?_
  refine Gp_aast 4 hmq194 heq194 dr_cJx4a65c_add_72be8_14 rfl ⟨hmq193, _, _, _, _, _, heq193, rfl, gr_cast 2 rfl⟩ (gB_inr (by omega) (by omega)) (fun F213 e214 n215 => ?_)
  obtain ⟨f216, hf216⟩ : ∃ z, z = va_up f202 p195.toNatClampNeg (some q193) := ⟨_, rfl⟩
  rw [← hf216] at e214
  have he217 : F213 q192 = .inr (4, [.int p196, .ref q194, .int p197]) := (n215 q192 (rn_oa heq192 heq194)).trans heq192
  have he218 : F213 q193 = .inr (17, [.ref qo198, .ref qo199, .int p200, .int p201]) := (n215 q193 (rn_oa heq193 heq194)).trans heq193
  have he219 : F213 q194 = .inl (I (.object "java/lang/Object"), n203, .inr (.inr (.inr (.inr f216)))) := e214
  have hfr220 : rFr [q194] P190 F191 F213 := rFr_put (rFr_rf (W := []) (P := P190) (F := F191)) n215
  refine G_aload_n 0 dr_cJx4a65c_add_72be8_15 rfl ?_
  refine G_iload_n 3 dr_cJx4a65c_add_72be8_16 rfl ?_
  refine G_iconst 1 dr_cJx4a65c_add_72be8_17 (by decide +kernel) ?_
  refine G_iadd dr_cJx4a65c_add_72be8_18 (G_nam fun z221 hz221 => ?_)
  have ez221 : z221.toInt = p195.toInt + 1 := by rw [gI_add hz221 bp195 (gBl (show Int32.toInt 1 = 1 by decide)) (by decide) (by decide), show Int32.toInt 1 = 1 from by decide]
  have bz221 : gB z221 1 16777217 := gB_add (gI_add hz221 bp195 (gBl (show Int32.toInt 1 = 1 by decide)) (by decide) (by decide)) bp195 (gBl (show Int32.toInt 1 = 1 by decide)) (by decide) (by decide)
  refine Gp_put 2 hmq192 he217 dr_cJx4a65c_add_72be8_19 (gk_Jx4a65c D I) (Nat.le_of_ble_eq_true rfl) wr_7_18 rfl rfl rfl (Nat.le_of_ble_eq_true rfl) (fun F222 e223 n224 => ?_)
  have he225 : F222 q193 = .inr (17, [.ref qo198, .ref qo199, .int p200, .int p201]) := (n224 q193 (rn_oo he218 he217 (by decide))).trans he218
  have he226 : F222 q194 = .inl (I (.object "java/lang/Object"), n203, .inr (.inr (.inr (.inr f216)))) := (n224 q194 (rn_ao he219 he217)).trans he219
  have he227 : F222 q192 = .inr (4, [.int p196, .ref q194, .int z221]) := e223
  have hfr228 : rFr [q192, q194] P190 F191 F222 := rFr_put hfr220 n224
  exact G_vretA dr_cJx4a65c_add_72be8_22 rfl (Nat.le_of_ble_eq_true rfl) (Nat.le_of_ble_eq_true rfl) ⟨F222, z221, f216, rfl, rfl, hfr228, he227, he225, he226, (Nat.le_of_ble_eq_true rfl), (Nat.le_of_ble_eq_true rfl), bz221, (by omega), (rI_add (fun _ _ => rfl) hf216 (by omega) (by omega)), (rSrcX_up hf216 rSrc_rf)⟩
abbrev ky_181_ArrayList_add : gKey := (cJx4a65c_add_9ea2d, 2, "java/util/ArrayList", (some FieldType.boolean), [], "add", fun _ _ => True)
def pp_181_ArrayList_add (D : va_G) (I : FieldType → ClassId) (P165 : List Nat) (F166 : Nat → va_E) (q167 : Nat) (q168 : Nat) (q169 : Nat) (p170 : Int32) (p171 : Int32) (qo172 : Nat) (qo173 : Nat) (p174 : Int32) (p175 : Int32) (f176 : Nat → Option Nat) (n177 : Nat) : Option Value → va_W → Nat → Nat → Prop := fun r w dc ds => ∃ (F254 : Nat → va_E) (o250 : Int32) (o251 : Int32) (f252 : Nat → Option Nat), r = some (.int 1) ∧ w = va_pl P165 F254 ∧ rFr [q167, q169] P165 F166 F254 ∧ F254 q167 = .inr (4, [.int o250, .ref q169, .int o251]) ∧ F254 q168 = .inr (17, [.ref qo172, .ref qo173, .int p174, .int p175]) ∧ F254 q169 = .inl (I (.object "java/lang/Object"), n177, .inr (.inr (.inr (.inr f252)))) ∧ dc ≤ 0 ∧ ds ≤ 0 ∧ gB o251 1 16777217 ∧ o251.toInt = p171.toInt + 1 ∧ ((∀ j : Nat, (j : Int) < p171.toInt → f252 j = f176 j) ∧ f252 p171.toInt.toNat = some q168) ∧ rSrcX f252 f176 q168
set_option maxRecDepth 100000 in
set_option maxHeartbeats 4000000 in
theorem cp_181_ArrayList_add (l : Launch) (hl0 : l.stackTraces = false) (D : va_G) (I : FieldType → ClassId) (P165 : List Nat) (F166 : Nat → va_E) (q167 : Nat) (q168 : Nat) (q169 : Nat) (p170 : Int32) (p171 : Int32) (qo172 : Nat) (qo173 : Nat) (p174 : Int32) (p175 : Int32) (f176 : Nat → Option Nat) (n177 : Nat) (hmq167 : q167 ∈ P165) (hmq168 : q168 ∈ P165) (hmq169 : q169 ∈ P165) (heq167 : F166 q167 = .inr (4, [.int p170, .ref q169, .int p171])) (heq168 : F166 q168 = .inr (17, [.ref qo172, .ref qo173, .int p174, .int p175])) (heq169 : F166 q169 = .inl (I (.object "java/lang/Object"), n177, .inr (.inr (.inr (.inr f176))))) (bp171 : gB p171 0 16777216) (bp174 : gB p174 0 39) (bp175 : gB p175 0 39) (x178 : p171.toInt < (n177 : Int)) (x179 : rEl P165 F166 f176) (x180 : ((n177 : Int) ≤ 16777216)) : CtA (gV D I) l yJx4a65c_add_9ea2d cJx4a65c_add_9ea2d 2 (some FieldType.boolean) 1 23 0 0 [.ref q167, .ref q168] (va_pl P165 F166) (pp_181_ArrayList_add D I P165 F166 q167 q168 q169 p170 p171 qo172 qo173 p174 p175 f176 n177) gNA := by
  refine CtA_ofF hl0 (by decide +kernel) (Nat.le_of_ble_eq_true rfl) ?_
  have bp170 := gB_any p170
  refine G_aload_n 0 dr_cJx4a65c_add_9ea2d_0 rfl ?_
  refine G_dup dr_cJx4a65c_add_9ea2d_1 rfl ?_
  refine Gp_getS 0 hmq167 heq167 dr_cJx4a65c_add_9ea2d_2 (gk_Jx4a65c D I) (Nat.le_of_ble_eq_true rfl) wr_7_20 wr_7_21 rfl ?_
  refine G_iconst 1 dr_cJx4a65c_add_9ea2d_5 (by decide +kernel) ?_
  refine G_iadd dr_cJx4a65c_add_9ea2d_6 (G_nam fun z182 hz182 => ?_)
  have bz182 : gB z182 (-2147483648) 2147483647 := gB_any z182
  refine Gp_putS 0 hmq167 heq167 dr_cJx4a65c_add_9ea2d_7 (gk_Jx4a65c D I) (Nat.le_of_ble_eq_true rfl) wr_7_20 wr_7_21 rfl rfl rfl (Nat.le_of_ble_eq_true rfl) (fun F183 e184 n185 => ?_)
  have he186 : F183 q168 = .inr (17, [.ref qo172, .ref qo173, .int p174, .int p175]) := (n185 q168 (rn_oo heq168 heq167 (by decide))).trans heq168
  have he187 : F183 q169 = .inl (I (.object "java/lang/Object"), n177, .inr (.inr (.inr (.inr f176)))) := (n185 q169 (rn_ao heq169 heq167)).trans heq169
  have he188 : F183 q167 = .inr (4, [.int z182, .ref q169, .int p171]) := e184
  have hfr189 : rFr [q167] P165 F166 F183 := rFr_put (rFr_rf (W := []) (P := P165) (F := F166)) n185
  refine G_aload_n 0 dr_cJx4a65c_add_9ea2d_10 rfl ?_
  refine G_aload_n 1 dr_cJx4a65c_add_9ea2d_11 rfl ?_
  refine G_aload_n 0 dr_cJx4a65c_add_9ea2d_12 rfl ?_
  refine Gp_get 1 hmq167 he188 dr_cJx4a65c_add_9ea2d_13 (gk_Jx4a65c D I) (Nat.le_of_ble_eq_true rfl) wr_7_17 rfl ?_
  refine G_aload_n 0 dr_cJx4a65c_add_9ea2d_16 rfl ?_
  refine Gp_get 2 hmq167 he188 dr_cJx4a65c_add_9ea2d_17 (gk_Jx4a65c D I) (Nat.le_of_ble_eq_true rfl) wr_7_18 rfl ?_
  refine Gw_callV (As := [.ref q168, .ref q169, .int p171]) (gV_ok D I) (cp_208_ArrayList_add l hl0 D I P165 F183 q167 q168 q169 p171 z182 p171 qo172 qo173 p174 p175 f176 n177 hmq167 hmq168 hmq169 he188 he186 he187 bp171 bp171 bp174 bp175 (by omega) (by omega) (rEl_frG (rEl_src x179 rSrc_rf) (rSub_rf (P := P165)) hfr189 (rNg_c (rNg_o heq167 (by decide) (by decide)) rNg_n)) (by omega)) dr_cJx4a65c_add_9ea2d_20 ⟨wr_10_7, wr_1_18, wr_10_10, by decide, rfl, (Nat.le_of_ble_eq_true rfl), (Nat.le_of_ble_eq_true rfl)⟩ wr_10_9 wr_p_85 hmq167 he188 rfl (show 0 + 0 ≤ 0 by first | omega | decide) (show 0 + 0 ≤ 0 by first | omega | decide) (Nat.le_of_ble_eq_true rfl) (fun r236 w237 dc233 ds234 hp235 => ?_) (fun _ _ _ _ _ z => z.elim)
  obtain ⟨F243, o238, f239, rfl, rfl, hfr245, he246, he247, he248, hdc, hds, bo238, x240, x241, x242⟩ := hp235
  have hfr249 : rFr [q167, q169] P165 F166 F243 := rFr_call (rSub_rf (P := P165)) hfr189 hfr245 (fun b hb hn => ⟨(nm_c (fun e => hn (e ▸ List.mem_cons_self)) nm_n), (nm_c (fun e => hn (e ▸ List.mem_cons_self)) (nm_c (fun e => hn (e ▸ (List.mem_cons_of_mem _ List.mem_cons_self))) nm_n))⟩)
  change G _ _ _ _ _ _ _ _ _ _ _
  refine G_widen (cs' := 0) (sl' := 0) (by omega) (by omega) ?_
  refine G_iconst 1 dr_cJx4a65c_add_9ea2d_23 (by decide +kernel) ?_
  exact G_zretA FieldType.boolean dr_cJx4a65c_add_9ea2d_24 rfl rfl (Nat.le_of_ble_eq_true rfl) (Nat.le_of_ble_eq_true rfl) ⟨F243, z182, o238, f239, rfl, rfl, hfr249, he246, he247, he248, (Nat.le_of_ble_eq_true rfl), (Nat.le_of_ble_eq_true rfl), bo238, (by omega), (by assumption), (by assumption)⟩
/- tr_RArraysSupport_newLength: result -/
def tr_RArraysSupport_newLength (a0 : Int32) (a1 : Int32) (a2 : Int32) (o1 : Int32) : Prop := ∀ R : (Int32) → Prop,
  (∀ (x1 : Int32) (x2 : Int32), (a1.toInt ≤ x1.toInt ∧ a2.toInt ≤ x1.toInt ∧ (x1.toInt = a1.toInt ∨ x1.toInt = a2.toInt)) → x2.toInt = a0.toInt + x1.toInt → R x2) →
  R o1
abbrev ky_355_ArraysSupport_newLength : gKey := (cJ8_newLength_cabcc, 4, "jdk/internal/util/ArraysSupport", (some FieldType.int), [], "newLength", fun _ _ => True)
def pp_355_ArraysSupport_newLength (D : va_G) (I : FieldType → ClassId) (P350 : List Nat) (F351 : Nat → va_E) (p352 : Int32) (p353 : Int32) (p354 : Int32) : Option Value → va_W → Nat → Nat → Prop := fun r w dc ds => ∃ (o358 : Int32), r = some (.int o358) ∧ w = va_pl P350 F351 ∧ dc ≤ 0 ∧ ds ≤ 0 ∧ gB o358 1 33554432 ∧ (p352.toInt + p353.toInt ≤ o358.toInt ∧ p352.toInt + p354.toInt ≤ o358.toInt ∧ (o358.toInt = p352.toInt + p353.toInt ∨ o358.toInt = p352.toInt + p354.toInt)) ∧ tr_RArraysSupport_newLength p352 p353 p354 o358
set_option maxRecDepth 100000 in
set_option maxHeartbeats 4000000 in
theorem cp_355_ArraysSupport_newLength (l : Launch) (hl0 : l.stackTraces = false) (D : va_G) (I : FieldType → ClassId) (P350 : List Nat) (F351 : Nat → va_E) (p352 : Int32) (p353 : Int32) (p354 : Int32) (bp352 : gB p352 0 16777216) (bp353 : gB p353 1 16777216) (bp354 : gB p354 0 16777216) : CtA (gV D I) l yJ8_newLength_cabcc cJ8_newLength_cabcc 4 (some FieldType.int) 1 14 0 0 [.int p352, .int p353, .int p354] (va_pl P350 F351) (pp_355_ArraysSupport_newLength D I P350 F351 p352 p353 p354) gNA := by
  refine CtA_ofF hl0 (by decide +kernel) (Nat.le_of_ble_eq_true rfl) ?_
  refine G_iload_n 0 dr_cJ8_newLength_cabcc_0 rfl ?_
  refine G_iload_n 1 dr_cJ8_newLength_cabcc_1 rfl ?_
  refine G_iload_n 2 dr_cJ8_newLength_cabcc_2 rfl ?_
  refine G_mmax dr_cJ8_newLength_cabcc_3 wr_8_15 wr_1_140 wr_1_6 wr_1_141 (Nat.le_of_ble_eq_true rfl) (Nat.le_of_ble_eq_true rfl) (show 0 ≤ 0 by first | omega | decide) (show 0 ≤ 0 by first | omega | decide) (G_nam fun z356 hz356 => ?_)
  have ez356 : p353.toInt ≤ z356.toInt ∧ p354.toInt ≤ z356.toInt ∧ (z356.toInt = p353.toInt ∨ z356.toInt = p354.toInt) := by have := gI_max hz356; omega
  have bz356 : gB z356 1 16777216 := ⟨by omega, by omega⟩
  refine G_iadd dr_cJ8_newLength_cabcc_6 (G_nam fun z357 hz357 => ?_)
  have ez357 : z357.toInt = p352.toInt + z356.toInt := by rw [gI_add hz357 bp352 bz356 (by decide) (by decide)]
  have bz357 : gB z357 1 33554432 := gB_add (gI_add hz357 bp352 bz356 (by decide) (by decide)) bp352 bz356 (by decide) (by decide)
  refine G_istore_n (L' := [(3, .int z357), (0, .int p352), (1, .int p353), (2, .int p354)]) dr_cJ8_newLength_cabcc_7 (Nat.le_of_ble_eq_true rfl) rfl ?_
  refine G_iconst 0 dr_cJ8_newLength_cabcc_8 (by decide +kernel) ?_
  refine G_iload_n 0 dr_cJ8_newLength_cabcc_9 rfl ?_
  refine G_icmp_ge 21 dr_cJ8_newLength_cabcc_10 (by decide +kernel) (fun hc => absurd (show False by have := gj_le hc (show Int32.toInt 0 = 0 by decide); omega) not_false) (fun _ => ?_)
  refine G_iload_n 0 dr_cJ8_newLength_cabcc_13 rfl ?_
  refine G_ldc 2147483639 dr_cJ8_newLength_cabcc_14 wr_8_16 ?_
  refine G_icmp_gt 21 dr_cJ8_newLength_cabcc_16 (by decide +kernel) (fun hc => absurd (show False by have := gj_ltL hc (show Int32.toInt 2147483639 = 2147483639 by decide); omega) not_false) (fun _ => ?_)
  refine G_iload_n 0 dr_cJ8_newLength_cabcc_19 rfl ?_
  exact G_iretA dr_cJ8_newLength_cabcc_20 rfl (Nat.le_of_ble_eq_true rfl) (Nat.le_of_ble_eq_true rfl) ⟨z357, rfl, rfl, (Nat.le_of_ble_eq_true rfl), (Nat.le_of_ble_eq_true rfl), bz357, (by omega), (fun R c1 => c1 z356 z357 ez356 ez357)⟩
/- tr_RArrays_copyOf2:  -/
def tr_RArrays_copyOf2 : Prop := ∀ R : Prop,
  (R) →
  R
abbrev ky_386_Arrays_copyOf : gKey := (cJ7_copyOf_6403c, 4, "java/util/Arrays", (some (FieldType.array (FieldType.object "java/lang/Object"))), [], "copyOf", fun _ _ => True)
def pp_386_Arrays_copyOf (D : va_G) (I : FieldType → ClassId) (P377 : List Nat) (F378 : Nat → va_E) (q379 : Nat) (p380 : Int32) (f381 : Nat → Option Nat) (n382 : Nat) : Option Value → va_W → Nat → Nat → Prop := fun r w dc ds => ∃ (P412 : List Nat) (F413 : Nat → va_E) (q410 : Nat) (f411 : Nat → Option Nat), r = some (.ref q410) ∧ w = va_pl P412 F413 ∧ rSub P377 P412 ∧ rFr [] P377 F378 F413 ∧ F413 q379 = .inl (I (.object "java/lang/Object"), n382, .inr (.inr (.inr (.inr f381)))) ∧ F413 q410 = .inl (I (.object "java/lang/Object"), p380.toInt.toNat, .inr (.inr (.inr (.inr f411)))) ∧ q410 ∈ P412 ∧ q410 ∉ P377 ∧ dc ≤ 1 ∧ ds ≤ p380.toInt.toNat ∧ (∀ j : Nat, (j : Int) < (n382 : Int) → f411 j = f381 j) ∧ rSrc f411 f381 ∧ tr_RArrays_copyOf2
set_option maxRecDepth 100000 in
set_option maxHeartbeats 4000000 in
theorem cp_386_Arrays_copyOf (l : Launch) (hl0 : l.stackTraces = false) (D : va_G) (I : FieldType → ClassId) (P377 : List Nat) (F378 : Nat → va_E) (q379 : Nat) (p380 : Int32) (f381 : Nat → Option Nat) (n382 : Nat) (hmq379 : q379 ∈ P377) (heq379 : F378 q379 = .inl (I (.object "java/lang/Object"), n382, .inr (.inr (.inr (.inr f381))))) (bp380 : gB p380 0 16777216) (x383 : (n382 : Int) ≤ p380.toInt) (x384 : rEl P377 F378 f381) (x385 : ((n382 : Int) ≤ 16777216)) : CtA (gV D I) l yJ7_copyOf_6403c cJ7_copyOf_6403c 4 (some (FieldType.array (FieldType.object "java/lang/Object"))) 1 18 1 p380.toInt.toNat [.ref q379, .int p380, .ref (D.2 1002 0)] (va_pl P377 F378) (pp_386_Arrays_copyOf D I P377 F378 q379 p380 f381 n382) gNA := by
  refine CtA_ofF hl0 (by decide +kernel) (Nat.le_of_ble_eq_true rfl) ?_
  refine G_aload_n 2 dr_cJ7_copyOf_6403c_0 rfl ?_
  refine G_ldcM dr_cJ7_copyOf_6403c_1 wr_10_57 (fun A s H h => (gr_mi A s H h).1) ?_
  refine G_acmp_ne 13 dr_cJ7_copyOf_6403c_3 (by decide +kernel) (fun hc => absurd rfl hc) (fun _ => ?_)
  refine G_iload_n 1 dr_cJ7_copyOf_6403c_6 rfl ?_
  refine Gp_newq (M := p380.toInt.toNat) 4 dr_cJ7_copyOf_6403c_7 wr_10_59 gr_ao rfl (g_n0 (by omega)) rfl (show p380.toInt.toNat * 4 ≤ 536870912 by omega) (show 0 + 1 ≤ 1 by first | omega | decide) (show 0 + p380.toInt.toNat ≤ p380.toInt.toNat by first | omega | decide) (fun q387 P388 F389 hq390 hP391 e392 n393 => ?_)
  refine G_widen (cs' := 1) (sl' := p380.toInt.toNat) (by omega) (by omega) ?_
  have he394 : F389 q379 = .inl (I (.object "java/lang/Object"), n382, .inr (.inr (.inr (.inr f381)))) := (n393 q379 (fun h => hq390 (h ▸ hmq379))).trans heq379
  have he395 : F389 q387 = .inl (I (.object "java/lang/Object"), p380.toInt.toNat, .inr (.inr (.inr (.inr (fun _ => none))))) := e392
  have hm396 : q379 ∈ P388 := (hP391 q379).mpr (Or.inl hmq379)
  have hm397 : q387 ∈ P388 := (hP391 q387).mpr (Or.inr rfl)
  have hq398 : q387 ∉ P377 := fun z => hq390 ((rSub_rf (P := P377)) q387 z)
  have hfr399 : rFr [] P377 F378 F389 := rFr_new (rSub_rf (P := P377)) hq390 (rFr_rf (W := []) (P := P377) (F := F378)) n393
  have hsb400 : rSub P377 P388 := rSub_new (rSub_rf (P := P377)) hP391
  refine G_goto 24 dr_cJ7_copyOf_6403c_10 (by decide +kernel) ?_
  refine G_astore_n (L' := [(3, .ref q387), (0, .ref q379), (1, .int p380), (2, .ref (D.2 1002 0))]) dr_cJ7_copyOf_6403c_24 (Nat.le_of_ble_eq_true rfl) rfl ?_
  refine G_aload_n 1 dr_cJ7_copyOf_6403c_25 rfl ?_
  refine G_iconst 0 dr_cJ7_copyOf_6403c_26 (by decide +kernel) ?_
  refine G_aload_n 0 dr_cJ7_copyOf_6403c_27 rfl ?_
  refine G_iconst 0 dr_cJ7_copyOf_6403c_28 (by decide +kernel) ?_
  refine G_aload_n 1 dr_cJ7_copyOf_6403c_29 rfl ?_
  refine Gp_alen (Int32.ofNat n382) 4 hm396 he394 dr_cJ7_copyOf_6403c_30 rfl rfl (G_nam fun z401 hz401 => ?_)
  have ez401 : z401.toInt = (n382 : Nat) := gI_ofM hz401 (by omega)
  have bz401 : gB z401 0 16777216 := ⟨by omega, by omega⟩
  refine G_iload_n 2 dr_cJ7_copyOf_6403c_31 rfl ?_
  refine G_mmin dr_cJ7_copyOf_6403c_32 wr_8_31 wr_3_227 wr_1_6 wr_3_228 (Nat.le_of_ble_eq_true rfl) (Nat.le_of_ble_eq_true rfl) (show 1 ≤ 1 by first | omega | decide) (show p380.toInt.toNat ≤ p380.toInt.toNat by first | omega | decide) (G_nam fun z402 hz402 => ?_)
  have ez402 : z401.toInt ≥ z402.toInt ∧ p380.toInt ≥ z402.toInt ∧ (z402.toInt = z401.toInt ∨ z402.toInt = p380.toInt) := by have := gI_min hz402; omega
  have bz402 : gB z402 0 16777216 := ⟨by omega, by omega⟩
  refine Gp_copyq 4 hm396 hm397 he394 he395 dr_cJ7_copyOf_6403c_35 wr_8_32 wr_5_113 wr_5_112 wr_1_34 rfl (by decide) (by decide) (by omega) (by have qa0 : Int32.toInt 0 = 0 := (by decide); omega) (by have qa0 : Int32.toInt 0 = 0 := (by decide); omega) (fun j _ w hw => rEl_ob (rEl_frG (rEl_src x384 rSrc_rf) hsb400 hfr399 rNg_n) hw) (Nat.le_of_ble_eq_true rfl) (Nat.le_of_ble_eq_true rfl) (fun F403 e404 n405 => ?_)
  obtain ⟨f406, hf406⟩ : ∃ z, z = va_cpy f381 (fun _ => none) (0 : Int32).toNatClampNeg (0 : Int32).toNatClampNeg z402.toNatClampNeg := ⟨_, rfl⟩
  rw [← hf406] at e404
  have he407 : F403 q379 = .inl (I (.object "java/lang/Object"), n382, .inr (.inr (.inr (.inr f381)))) := (n405 q379 (fun h => hq398 (h ▸ hmq379))).trans he394
  have he408 : F403 q387 = .inl (I (.object "java/lang/Object"), p380.toInt.toNat, .inr (.inr (.inr (.inr f406)))) := e404
  have hfr409 : rFr [] P377 F378 F403 := rFr_newp hq398 hfr399 n405
  refine G_aload_n 0 dr_cJ7_copyOf_6403c_38 rfl ?_
  exact G_aretA (FieldType.array (FieldType.object "java/lang/Object")) dr_cJ7_copyOf_6403c_39 rfl (by first | exact Or.inl ⟨_, rfl⟩ | exact Or.inr ⟨_, rfl⟩) (Or.inr ⟨_, rfl⟩) (Nat.le_of_ble_eq_true rfl) (show p380.toInt.toNat ≤ p380.toInt.toNat by omega) ⟨P388, F403, q387, f406, rfl, rfl, hsb400, hfr409, he407, he408, hm397, hq398, (Nat.le_of_ble_eq_true rfl), (by omega), (rC_cpy0 hf406 (by omega)), (rSrc_cpy hf406 rSrc_rf rSrc_none), (fun R c1 => c1)⟩
/- tr_RArrays_copyOf:  -/
def tr_RArrays_copyOf : Prop := ∀ R : Prop,
  (tr_RArrays_copyOf2 → R) →
  R
abbrev ky_376_Arrays_copyOf : gKey := (cJ7_copyOf_1904c, 2, "java/util/Arrays", (some (FieldType.array (FieldType.object "java/lang/Object"))), [], "copyOf", fun _ _ => True)
def pp_376_Arrays_copyOf (D : va_G) (I : FieldType → ClassId) (P367 : List Nat) (F368 : Nat → va_E) (q369 : Nat) (p370 : Int32) (f371 : Nat → Option Nat) (n372 : Nat) : Option Value → va_W → Nat → Nat → Prop := fun r w dc ds => ∃ (P438 : List Nat) (F439 : Nat → va_E) (q436 : Nat) (f437 : Nat → Option Nat), r = some (.ref q436) ∧ w = va_pl P438 F439 ∧ rSub P367 P438 ∧ rFr [] P367 F368 F439 ∧ F439 q369 = .inl (I (.object "java/lang/Object"), n372, .inr (.inr (.inr (.inr f371)))) ∧ F439 q436 = .inl (I (.object "java/lang/Object"), p370.toInt.toNat, .inr (.inr (.inr (.inr f437)))) ∧ q436 ∈ P438 ∧ q436 ∉ P367 ∧ dc ≤ 1 ∧ ds ≤ p370.toInt.toNat ∧ (∀ j : Nat, (j : Int) < (n372 : Int) → f437 j = f371 j) ∧ rSrc f437 f371 ∧ tr_RArrays_copyOf
set_option maxRecDepth 100000 in
set_option maxHeartbeats 4000000 in
theorem cp_376_Arrays_copyOf (l : Launch) (hl0 : l.stackTraces = false) (D : va_G) (I : FieldType → ClassId) (P367 : List Nat) (F368 : Nat → va_E) (q369 : Nat) (p370 : Int32) (f371 : Nat → Option Nat) (n372 : Nat) (hmq369 : q369 ∈ P367) (heq369 : F368 q369 = .inl (I (.object "java/lang/Object"), n372, .inr (.inr (.inr (.inr f371))))) (bp370 : gB p370 0 16777216) (x373 : (n372 : Int) ≤ p370.toInt) (x374 : rEl P367 F368 f371) (x375 : ((n372 : Int) ≤ 16777216)) : CtA (gV D I) l yJ7_copyOf_1904c cJ7_copyOf_1904c 2 (some (FieldType.array (FieldType.object "java/lang/Object"))) 2 41 1 p370.toInt.toNat [.ref q369, .int p370] (va_pl P367 F368) (pp_376_Arrays_copyOf D I P367 F368 q369 p370 f371 n372) gNA := by
  refine CtA_ofF hl0 (by decide +kernel) (Nat.le_of_ble_eq_true rfl) ?_
  refine G_aload_n 0 dr_cJ7_copyOf_1904c_0 rfl ?_
  refine G_iload_n 1 dr_cJ7_copyOf_1904c_1 rfl ?_
  refine G_aload_n 0 dr_cJ7_copyOf_1904c_2 rfl ?_
  refine Gp_getC 4 hmq369 heq369 rfl rfl dr_cJ7_copyOf_1904c_3 wr_10_23 wr_12_1 wr_10_24 wr_10_53 gr_mi (Nat.le_of_ble_eq_true rfl) (Nat.le_of_ble_eq_true rfl) ?_
  refine Gw_callS (As := [.ref q369, .int p370, .ref (D.2 1002 0)]) (gV_ok D I) (cp_386_Arrays_copyOf l hl0 D I P367 F368 q369 p370 f371 n372 hmq369 heq369 bp370 (by omega) (rEl_frG (rEl_src x374 rSrc_rf) (rSub_rf (P := P367)) (rFr_rf (W := []) (P := P367) (F := F368)) rNg_n) (by omega)) dr_cJ7_copyOf_1904c_6 ⟨wr_10_54, wr_1_30, wr_10_56, by decide, rfl, (Nat.le_of_ble_eq_true rfl), (Nat.le_of_ble_eq_true rfl)⟩ wr_10_55 (show 0 + 1 ≤ 1 by first | omega | decide) (show 0 + p370.toInt.toNat ≤ p370.toInt.toNat by first | omega | decide) (Nat.le_of_ble_eq_true rfl) (fun r417 w418 dc414 ds415 hp416 => ?_) (fun _ _ _ _ _ z => z.elim)
  obtain ⟨P424, F425, q419, f420, rfl, rfl, hsb426, hfr427, he428, he429, hm430, hq431, hdc, hds, x421, x422, ht423⟩ := hp416
  have hm432 : q369 ∈ P424 := hsb426 q369 hmq369
  have hq433 : q419 ∉ P367 := fun z => hq431 ((rSub_rf (P := P367)) q419 z)
  have hsb434 : rSub P367 P424 := rSub_tr (rSub_rf (P := P367)) hsb426
  have hfr435 : rFr [] P367 F368 F425 := rFr_call (rSub_rf (P := P367)) (rFr_rf (W := []) (P := P367) (F := F368)) hfr427 (fun b hb hn => ⟨nm_n, nm_n⟩)
  change G _ _ _ _ _ _ _ (.ref q419 :: _) _ _ _
  refine G_widen (cs' := 1) (sl' := p370.toInt.toNat) (by omega) (by omega) ?_
  exact G_aretA (FieldType.array (FieldType.object "java/lang/Object")) dr_cJ7_copyOf_1904c_9 rfl (by first | exact Or.inl ⟨_, rfl⟩ | exact Or.inr ⟨_, rfl⟩) (Or.inr ⟨_, rfl⟩) (Nat.le_of_ble_eq_true rfl) (show p370.toInt.toNat ≤ p370.toInt.toNat by omega) ⟨P424, F425, q419, f420, rfl, rfl, hsb434, hfr435, he428, he429, hm430, hq433, (Nat.le_of_ble_eq_true rfl), (by omega), (by assumption), (rSrc_tr x422 rSrc_rf), (fun R c1 => c1 ht423)⟩
abbrev ky_343_ArrayList_grow : gKey := (cJx4a65c_grow_92f84, 4, "java/util/ArrayList", (some (FieldType.array (FieldType.object "java/lang/Object"))), [], "grow", fun _ _ => True)
def pp_343_ArrayList_grow (D : va_G) (I : FieldType → ClassId) (P328 : List Nat) (F329 : Nat → va_E) (q330 : Nat) (q331 : Nat) (p332 : Int32) (p333 : Int32) (p334 : Int32) (f335 : Nat → Option Nat) (n336 : Nat) : Option Value → va_W → Nat → Nat → Prop := fun r w dc ds => ∃ (P474 : List Nat) (F475 : Nat → va_E) (q471 : Nat) (n472 : Nat) (f473 : Nat → Option Nat), r = some (.ref q471) ∧ w = va_pl P474 F475 ∧ rSub P328 P474 ∧ rFr [q330] P328 F329 F475 ∧ F475 q330 = .inr (4, [.int p333, .ref q471, .int p334]) ∧ F475 q471 = .inl (I (.object "java/lang/Object"), n472, .inr (.inr (.inr (.inr f473)))) ∧ q471 ∈ P474 ∧ q471 ∉ P328 ∧ dc ≤ 1 ∧ ds ≤ n336 + n336 / 2 + 1 ∧ (∀ j : Nat, (j : Int) < (n336 : Int) → f473 j = f335 j) ∧ rSrc f473 f335 ∧ ((n472 : Int) ≤ (n336 : Int) + (n336 : Int) / 2 + 1 ∧ (n336 : Int) + 1 ≤ (n472 : Int) ∧ (n336 : Int) + (n336 : Int) / 2 ≤ (n472 : Int))
set_option maxRecDepth 100000 in
set_option maxHeartbeats 4000000 in
theorem cp_343_ArrayList_grow (l : Launch) (hl0 : l.stackTraces = false) (D : va_G) (I : FieldType → ClassId) (P328 : List Nat) (F329 : Nat → va_E) (q330 : Nat) (q331 : Nat) (p332 : Int32) (p333 : Int32) (p334 : Int32) (f335 : Nat → Option Nat) (n336 : Nat) (hmq330 : q330 ∈ P328) (hmq331 : q331 ∈ P328) (heq330 : F329 q330 = .inr (4, [.int p333, .ref q331, .int p334])) (heq331 : F329 q331 = .inl (I (.object "java/lang/Object"), n336, .inr (.inr (.inr (.inr f335))))) (bp332 : gB p332 0 16777216) (bp334 : gB p334 0 16777216) (x337 : 0 < (n336 : Int)) (x338 : (n336 : Int) ≤ 1000000) (x339 : p334.toInt = (n336 : Int)) (x340 : p332.toInt = p334.toInt + 1) (x341 : rEl P328 F329 f335) (x342 : ((n336 : Int) ≤ 16777216)) : CtA (gV D I) l yJx4a65c_grow_92f84 cJx4a65c_grow_92f84 4 (some (FieldType.array (FieldType.object "java/lang/Object"))) 3 62 1 (n336 + n336 / 2 + 1) [.ref q330, .int p332] (va_pl P328 F329) (pp_343_ArrayList_grow D I P328 F329 q330 q331 p332 p333 p334 f335 n336) gNA := by
  refine CtA_ofF hl0 (by decide +kernel) (Nat.le_of_ble_eq_true rfl) ?_
  have bp333 := gB_any p333
  refine G_aload_n 0 dr_cJx4a65c_grow_92f84_0 rfl ?_
  refine Gp_get 1 hmq330 heq330 dr_cJx4a65c_grow_92f84_1 (gk_Jx4a65c D I) (Nat.le_of_ble_eq_true rfl) wr_7_17 rfl ?_
  refine Gp_alen (Int32.ofNat n336) 4 hmq331 heq331 dr_cJx4a65c_grow_92f84_4 rfl rfl (G_nam fun z344 hz344 => ?_)
  have ez344 : z344.toInt = (n336 : Nat) := gI_ofM hz344 (by omega)
  have bz344 : gB z344 0 16777216 := ⟨by omega, by omega⟩
  refine G_istore_n (L' := [(2, .int z344), (0, .ref q330), (1, .int p332)]) dr_cJx4a65c_grow_92f84_5 (Nat.le_of_ble_eq_true rfl) rfl ?_
  refine G_iload_n 0 dr_cJx4a65c_grow_92f84_6 rfl ?_
  refine G_if_gt 20 dr_cJx4a65c_grow_92f84_7 (by decide +kernel) (fun hc345 => ?_) (fun hc => absurd (show False by have := gj_nltL hc (show Int32.toInt 0 = 0 by decide); omega) not_false)
  have r347 : 0 < z344.toInt := gj_ltL hc345 (show Int32.toInt 0 = 0 by decide)
  have bz344' : gB z344 1 16777216 := ⟨by omega, by omega⟩
  refine G_iload_n 0 dr_cJx4a65c_grow_92f84_20 rfl ?_
  refine G_iload_n 2 dr_cJx4a65c_grow_92f84_21 rfl ?_
  refine G_iload_n 0 dr_cJx4a65c_grow_92f84_22 rfl ?_
  refine G_isub dr_cJx4a65c_grow_92f84_23 (G_nam fun z348 hz348 => ?_)
  have ez348 : z348.toInt = p332.toInt - z344.toInt := by rw [gI_sub hz348 bp332 bz344' (by decide) (by decide)]
  have bz348 : gB z348 (-16777216) 16777215 := gB_sub (gI_sub hz348 bp332 bz344' (by decide) (by decide)) bp332 bz344' (by decide) (by decide)
  refine G_iload_n 0 dr_cJx4a65c_grow_92f84_24 rfl ?_
  refine G_iconst 1 dr_cJx4a65c_grow_92f84_25 (by decide +kernel) ?_
  refine G_ishr dr_cJx4a65c_grow_92f84_26 (G_nam fun z349 hz349 => ?_)
  have ez349 : z349.toInt = z344.toInt / 2 := gI_shr (k := 1) hz349 (by decide)
  have bz349 : gB z349 0 8388608 := ⟨by omega, by omega⟩
  refine Gw_callS (As := [.int z344, .int z348, .int z349]) (gV_ok D I) (cp_355_ArraysSupport_newLength l hl0 D I P328 F329 z344 z348 z349 (gB_w bz344' (by decide) (by decide)) ⟨by omega, by omega⟩ (gB_w bz349 (by decide) (by decide))) dr_cJx4a65c_grow_92f84_27 ⟨wr_10_19, wr_1_33, wr_8_14, by decide, rfl, (Nat.le_of_ble_eq_true rfl), (Nat.le_of_ble_eq_true rfl)⟩ wr_8_13 (show 0 + 0 ≤ 1 by first | omega | decide) (show 0 + 0 ≤ (n336 + n336 / 2 + 1) by first | omega | decide) (Nat.le_of_ble_eq_true rfl) (fun r362 w363 dc359 ds360 hp361 => ?_) (fun _ _ _ _ _ z => z.elim)
  obtain ⟨o364, rfl, rfl, hdc, hds, bo364, x365, ht366⟩ := hp361
  change G _ _ _ _ _ _ _ (.int o364 :: _) _ _ _
  refine G_widen (cs' := 0) (sl' := 0) (by omega) (by omega) ?_
  refine G_istore_n (L' := [(3, .int o364), (2, .int z344), (0, .ref q330), (1, .int p332)]) dr_cJx4a65c_grow_92f84_30 (Nat.le_of_ble_eq_true rfl) rfl ?_
  refine G_aload_n 2 dr_cJx4a65c_grow_92f84_31 rfl ?_
  refine G_aload_n 2 dr_cJx4a65c_grow_92f84_32 rfl ?_
  refine Gp_get 1 hmq330 heq330 dr_cJx4a65c_grow_92f84_33 (gk_Jx4a65c D I) (Nat.le_of_ble_eq_true rfl) wr_7_17 rfl ?_
  refine G_iload_n 0 dr_cJx4a65c_grow_92f84_36 rfl ?_
  refine Gw_callS (As := [.ref q331, .int o364]) (gV_ok D I) (cp_376_Arrays_copyOf l hl0 D I P328 F329 q331 o364 f335 n336 hmq331 heq331 ⟨by omega, by omega⟩ (by omega) (rEl_frG (rEl_src x341 rSrc_rf) (rSub_rf (P := P328)) (rFr_rf (W := []) (P := P328) (F := F329)) rNg_n) (by omega)) dr_cJx4a65c_grow_92f84_37 ⟨wr_10_20, wr_1_30, wr_10_22, by decide, rfl, (Nat.le_of_ble_eq_true rfl), (Nat.le_of_ble_eq_true rfl)⟩ wr_10_21 (show 0 + 1 ≤ 1 by first | omega | decide) (show 0 + o364.toInt.toNat ≤ (n336 + n336 / 2 + 1) by first | omega | decide) (Nat.le_of_ble_eq_true rfl) (fun r443 w444 dc440 ds441 hp442 => ?_) (fun _ _ _ _ _ z => z.elim)
  obtain ⟨P450, F451, q445, f446, rfl, rfl, hsb452, hfr453, he454, he455, hm456, hq457, hdc, hds, x447, x448, ht449⟩ := hp442
  have hm458 : q330 ∈ P450 := hsb452 q330 hmq330
  have hm459 : q331 ∈ P450 := hsb452 q331 hmq331
  have hq460 : q445 ∉ P328 := fun z => hq457 ((rSub_rf (P := P328)) q445 z)
  have hsb461 : rSub P328 P450 := rSub_tr (rSub_rf (P := P328)) hsb452
  have he462 : F451 q330 = .inr (4, [.int p333, .ref q331, .int p334]) := (hfr453 q330 hmq330 nm_n).trans heq330
  have hfr463 : rFr [] P328 F329 F451 := rFr_call (rSub_rf (P := P328)) (rFr_rf (W := []) (P := P328) (F := F329)) hfr453 (fun b hb hn => ⟨nm_n, nm_n⟩)
  change G _ _ _ _ _ _ _ (.ref q445 :: _) _ _ _
  refine G_widen (cs' := 1) (sl' := o364.toInt.toNat) (by omega) (by omega) ?_
  refine G_dup_x1 dr_cJx4a65c_grow_92f84_40 rfl rfl ?_
  refine Gp_put 1 hm458 he462 dr_cJx4a65c_grow_92f84_41 (gk_Jx4a65c D I) (Nat.le_of_ble_eq_true rfl) wr_7_17 rfl rfl rfl (Nat.le_of_ble_eq_true rfl) (fun F464 e465 n466 => ?_)
  have he467 : F464 q331 = .inl (I (.object "java/lang/Object"), n336, .inr (.inr (.inr (.inr f335)))) := (n466 q331 (rn_ao he454 he462)).trans he454
  have he468 : F464 q445 = .inl (I (.object "java/lang/Object"), o364.toInt.toNat, .inr (.inr (.inr (.inr f446)))) := (n466 q445 (fun h => hq460 (h ▸ hmq330))).trans he455
  have he469 : F464 q330 = .inr (4, [.int p333, .ref q445, .int p334]) := e465
  have hfr470 : rFr [q330] P328 F329 F464 := rFr_put hfr463 n466
  exact G_aretA (FieldType.array (FieldType.object "java/lang/Object")) dr_cJx4a65c_grow_92f84_44 rfl (by first | exact Or.inl ⟨_, rfl⟩ | exact Or.inr ⟨_, rfl⟩) (Or.inr ⟨_, rfl⟩) (Nat.le_of_ble_eq_true rfl) (show o364.toInt.toNat ≤ (n336 + n336 / 2 + 1) by omega) ⟨P450, F464, q445, o364.toInt.toNat, f446, rfl, rfl, hsb461, hfr470, he469, he468, hm456, hq460, (Nat.le_of_ble_eq_true rfl), (by omega), (by assumption), (rSrc_tr x448 rSrc_rf), (by omega)⟩
abbrev ky_326_ArrayList_grow : gKey := (cJx4a65c_grow_d5877, 1, "java/util/ArrayList", (some (FieldType.array (FieldType.object "java/lang/Object"))), [], "grow", fun _ _ => True)
def pp_326_ArrayList_grow (D : va_G) (I : FieldType → ClassId) (P313 : List Nat) (F314 : Nat → va_E) (q315 : Nat) (q316 : Nat) (p317 : Int32) (p318 : Int32) (f319 : Nat → Option Nat) (n320 : Nat) : Option Value → va_W → Nat → Nat → Prop := fun r w dc ds => ∃ (P504 : List Nat) (F505 : Nat → va_E) (q501 : Nat) (n502 : Nat) (f503 : Nat → Option Nat), r = some (.ref q501) ∧ w = va_pl P504 F505 ∧ rSub P313 P504 ∧ rFr [q315] P313 F314 F505 ∧ F505 q315 = .inr (4, [.int p317, .ref q501, .int p318]) ∧ F505 q501 = .inl (I (.object "java/lang/Object"), n502, .inr (.inr (.inr (.inr f503)))) ∧ q501 ∈ P504 ∧ q501 ∉ P313 ∧ dc ≤ 1 ∧ ds ≤ n320 + n320 / 2 + 1 ∧ (∀ j : Nat, (j : Int) < (n320 : Int) → f503 j = f319 j) ∧ rSrc f503 f319 ∧ ((n502 : Int) ≤ (n320 : Int) + (n320 : Int) / 2 + 1 ∧ (n320 : Int) + 1 ≤ (n502 : Int) ∧ (n320 : Int) + (n320 : Int) / 2 ≤ (n502 : Int))
set_option maxRecDepth 100000 in
set_option maxHeartbeats 4000000 in
theorem cp_326_ArrayList_grow (l : Launch) (hl0 : l.stackTraces = false) (D : va_G) (I : FieldType → ClassId) (P313 : List Nat) (F314 : Nat → va_E) (q315 : Nat) (q316 : Nat) (p317 : Int32) (p318 : Int32) (f319 : Nat → Option Nat) (n320 : Nat) (hmq315 : q315 ∈ P313) (hmq316 : q316 ∈ P313) (heq315 : F314 q315 = .inr (4, [.int p317, .ref q316, .int p318])) (heq316 : F314 q316 = .inl (I (.object "java/lang/Object"), n320, .inr (.inr (.inr (.inr f319))))) (bp318 : gB p318 0 16777216) (x321 : 0 < (n320 : Int)) (x322 : (n320 : Int) ≤ 1000000) (x323 : p318.toInt = (n320 : Int)) (x324 : rEl P313 F314 f319) (x325 : ((n320 : Int) ≤ 16777216)) : CtA (gV D I) l yJx4a65c_grow_d5877 cJx4a65c_grow_d5877 1 (some (FieldType.array (FieldType.object "java/lang/Object"))) 4 85 1 (n320 + n320 / 2 + 1) [.ref q315] (va_pl P313 F314) (pp_326_ArrayList_grow D I P313 F314 q315 q316 p317 p318 f319 n320) gNA := by
  refine CtA_ofF hl0 (by decide +kernel) (Nat.le_of_ble_eq_true rfl) ?_
  have bp317 := gB_any p317
  refine G_aload_n 0 dr_cJx4a65c_grow_d5877_0 rfl ?_
  refine G_aload_n 0 dr_cJx4a65c_grow_d5877_1 rfl ?_
  refine Gp_get 2 hmq315 heq315 dr_cJx4a65c_grow_d5877_2 (gk_Jx4a65c D I) (Nat.le_of_ble_eq_true rfl) wr_7_18 rfl ?_
  refine G_iconst 1 dr_cJx4a65c_grow_d5877_5 (by decide +kernel) ?_
  refine G_iadd dr_cJx4a65c_grow_d5877_6 (G_nam fun z327 hz327 => ?_)
  have ez327 : z327.toInt = p318.toInt + 1 := by rw [gI_add hz327 bp318 (gBl (show Int32.toInt 1 = 1 by decide)) (by decide) (by decide), show Int32.toInt 1 = 1 from by decide]
  have bz327 : gB z327 1 16777217 := gB_add (gI_add hz327 bp318 (gBl (show Int32.toInt 1 = 1 by decide)) (by decide) (by decide)) bp318 (gBl (show Int32.toInt 1 = 1 by decide)) (by decide) (by decide)
  refine Gw_callV (As := [.int z327]) (gV_ok D I) (cp_343_ArrayList_grow l hl0 D I P313 F314 q315 q316 z327 p317 p318 f319 n320 hmq315 hmq316 heq315 heq316 ⟨by omega, by omega⟩ bp318 (by omega) (by omega) (by omega) (by omega) (rEl_frG (rEl_src x324 rSrc_rf) (rSub_rf (P := P313)) (rFr_rf (W := []) (P := P313) (F := F314)) rNg_n) (by omega)) dr_cJx4a65c_grow_d5877_7 ⟨wr_10_15, wr_1_18, wr_10_18, by decide, rfl, (Nat.le_of_ble_eq_true rfl), (Nat.le_of_ble_eq_true rfl)⟩ wr_10_17 wr_p_87 hmq315 heq315 rfl (show 0 + 1 ≤ 1 by first | omega | decide) (show 0 + (n320 + n320 / 2 + 1) ≤ (n320 + n320 / 2 + 1) by first | omega | decide) (Nat.le_of_ble_eq_true rfl) (fun r479 w480 dc476 ds477 hp478 => ?_) (fun _ _ _ _ _ z => z.elim)
  obtain ⟨P487, F488, q481, n482, f483, rfl, rfl, hsb489, hfr490, he491, he492, hm493, hq494, hdc, hds, x484, x485, x486⟩ := hp478
  have hm495 : q315 ∈ P487 := hsb489 q315 hmq315
  have hm496 : q316 ∈ P487 := hsb489 q316 hmq316
  have hq497 : q481 ∉ P313 := fun z => hq494 ((rSub_rf (P := P313)) q481 z)
  have hsb498 : rSub P313 P487 := rSub_tr (rSub_rf (P := P313)) hsb489
  have he499 : F488 q316 = .inl (I (.object "java/lang/Object"), n320, .inr (.inr (.inr (.inr f319)))) := (hfr490 q316 hmq316 (nm_c (rn_ao heq316 heq315) nm_n)).trans heq316
  have hfr500 : rFr [q315] P313 F314 F488 := rFr_call (rSub_rf (P := P313)) (rFr_rf (W := []) (P := P313) (F := F314)) hfr490 (fun b hb hn => ⟨nm_n, (nm_c (fun e => hn (e ▸ List.mem_cons_self)) nm_n)⟩)
  change G _ _ _ _ _ _ _ (.ref q481 :: _) _ _ _
  refine G_widen (cs' := 1) (sl' := n320 + n320 / 2 + 1) (by omega) (by omega) ?_
  exact G_aretA (FieldType.array (FieldType.object "java/lang/Object")) dr_cJx4a65c_grow_d5877_10 rfl (by first | exact Or.inl ⟨_, rfl⟩ | exact Or.inr ⟨_, rfl⟩) (Or.inr ⟨_, rfl⟩) (Nat.le_of_ble_eq_true rfl) (show n320 + n320 / 2 + 1 ≤ (n320 + n320 / 2 + 1) by omega) ⟨P487, F488, q481, n482, f483, rfl, rfl, hsb498, hfr500, he491, he492, hm493, hq497, (Nat.le_of_ble_eq_true rfl), (by omega), (by assumption), (rSrc_tr x485 rSrc_rf), (by omega)⟩
abbrev ky_308_ArrayList_add : gKey := (cJx4a65c_add_72be8, 4, "java/util/ArrayList", none, [], "add", fun _ _ => True)
def pp_308_ArrayList_add (D : va_G) (I : FieldType → ClassId) (P285 : List Nat) (F286 : Nat → va_E) (q287 : Nat) (q288 : Nat) (q289 : Nat) (p290 : Int32) (p291 : Int32) (p292 : Int32) (p293 : Int32) (p294 : Int32) (p295 : Int32) (p296 : Int32) (p297 : Int32) (p298 : Int32) (p299 : Int32) (f300 : Nat → Option Nat) (n301 : Nat) : Option Value → va_W → Nat → Nat → Prop := fun r w dc ds => ∃ (P555 : List Nat) (F556 : Nat → va_E) (o551 : Int32) (q552 : Nat) (n553 : Nat) (f554 : Nat → Option Nat), r = none ∧ w = va_pl P555 F556 ∧ rSub P285 P555 ∧ rFr [q287] P285 F286 F556 ∧ F556 q288 = .inr (20, [.int p293, .int p294, .int p295, .int p296, .int p297, .int p298, .int p299]) ∧ F556 q289 = .inl (I (.object "java/lang/Object"), n301, .inr (.inr (.inr (.inr f300)))) ∧ F556 q287 = .inr (4, [.int p291, .ref q552, .int o551]) ∧ F556 q552 = .inl (I (.object "java/lang/Object"), n553, .inr (.inr (.inr (.inr f554)))) ∧ q552 ∈ P555 ∧ q552 ∉ P285 ∧ dc ≤ 1 ∧ ds ≤ n301 + n301 / 2 + 1 ∧ gB o551 1 16777217 ∧ o551.toInt = p292.toInt + 1 ∧ ((∀ j : Nat, (j : Int) < p292.toInt → f554 j = f300 j) ∧ f554 p290.toInt.toNat = some q288) ∧ rSrcX f554 f300 q288 ∧ ((n553 : Int) ≤ (n301 : Int) + (n301 : Int) / 2 + 1 ∧ (n301 : Int) + 1 ≤ (n553 : Int) ∧ (n301 : Int) + (n301 : Int) / 2 ≤ (n553 : Int))
set_option maxRecDepth 100000 in
set_option maxHeartbeats 4000000 in
theorem cp_308_ArrayList_add (l : Launch) (hl0 : l.stackTraces = false) (D : va_G) (I : FieldType → ClassId) (P285 : List Nat) (F286 : Nat → va_E) (q287 : Nat) (q288 : Nat) (q289 : Nat) (p290 : Int32) (p291 : Int32) (p292 : Int32) (p293 : Int32) (p294 : Int32) (p295 : Int32) (p296 : Int32) (p297 : Int32) (p298 : Int32) (p299 : Int32) (f300 : Nat → Option Nat) (n301 : Nat) (hmq287 : q287 ∈ P285) (hmq288 : q288 ∈ P285) (hmq289 : q289 ∈ P285) (heq287 : F286 q287 = .inr (4, [.int p291, .ref q289, .int p292])) (heq288 : F286 q288 = .inr (20, [.int p293, .int p294, .int p295, .int p296, .int p297, .int p298, .int p299])) (heq289 : F286 q289 = .inl (I (.object "java/lang/Object"), n301, .inr (.inr (.inr (.inr f300))))) (bp290 : gB p290 0 16777216) (bp292 : gB p292 0 16777216) (bp293 : gB p293 0 32) (bp294 : gB p294 0 1999) (bp297 : gB p297 0 1999) (bp298 : gB p298 0 1) (bp299 : gB p299 0 1) (x302 : 0 < (n301 : Int)) (x303 : (n301 : Int) ≤ 1000000) (x304 : p292.toInt = (n301 : Int)) (x305 : p290.toInt = p292.toInt) (x306 : rEl P285 F286 f300) (x307 : ((n301 : Int) ≤ 16777216)) : CtA (gV D I) l yJx4a65c_add_72be8 cJx4a65c_add_72be8 4 none 5 105 1 (n301 + n301 / 2 + 1) [.ref q287, .ref q288, .ref q289, .int p290] (va_pl P285 F286) (pp_308_ArrayList_add D I P285 F286 q287 q288 q289 p290 p291 p292 p293 p294 p295 p296 p297 p298 p299 f300 n301) gNA := by
  refine CtA_ofF hl0 (by decide +kernel) (Nat.le_of_ble_eq_true rfl) ?_
  have bp291 := gB_any p291
  have bp295 := gB_any p295
  have bp296 := gB_any p296
  refine G_iload_n 3 dr_cJx4a65c_add_72be8_0 rfl ?_
  refine G_aload_n 2 dr_cJx4a65c_add_72be8_1 rfl ?_
  refine Gp_alen (Int32.ofNat n301) 4 hmq289 heq289 dr_cJx4a65c_add_72be8_2 rfl rfl (G_nam fun z309 hz309 => ?_)
  have ez309 : z309.toInt = (n301 : Nat) := gI_ofM hz309 (by omega)
  have bz309 : gB z309 0 16777216 := ⟨by omega, by omega⟩
  refine G_icmp_ne 11 dr_cJx4a65c_add_72be8_3 (by decide +kernel) (fun hc => absurd (show False by have := gC_ne hc; omega) not_false) (fun hc310 => ?_)
  have r312 : p290.toInt = z309.toInt := gC_eq hc310
  refine G_aload_n 0 dr_cJx4a65c_add_72be8_6 rfl ?_
  refine Gw_callV (As := []) (gV_ok D I) (cp_326_ArrayList_grow l hl0 D I P285 F286 q287 q289 p291 p292 f300 n301 hmq287 hmq289 heq287 heq289 bp292 (by omega) (by omega) (by omega) (rEl_frG (rEl_src x306 rSrc_rf) (rSub_rf (P := P285)) (rFr_rf (W := []) (P := P285) (F := F286)) rNg_n) (by omega)) dr_cJx4a65c_add_72be8_7 ⟨wr_10_11, wr_1_18, wr_10_14, by decide, rfl, (Nat.le_of_ble_eq_true rfl), (Nat.le_of_ble_eq_true rfl)⟩ wr_10_13 wr_p_86 hmq287 heq287 rfl (show 0 + 1 ≤ 1 by first | omega | decide) (show 0 + (n301 + n301 / 2 + 1) ≤ (n301 + n301 / 2 + 1) by first | omega | decide) (Nat.le_of_ble_eq_true rfl) (fun r509 w510 dc506 ds507 hp508 => ?_) (fun _ _ _ _ _ z => z.elim)
  obtain ⟨P517, F518, q511, n512, f513, rfl, rfl, hsb519, hfr520, he521, he522, hm523, hq524, hdc, hds, x514, x515, x516⟩ := hp508
  have hm525 : q287 ∈ P517 := hsb519 q287 hmq287
  have hm526 : q288 ∈ P517 := hsb519 q288 hmq288
  have hm527 : q289 ∈ P517 := hsb519 q289 hmq289
  have hq528 : q511 ∉ P285 := fun z => hq524 ((rSub_rf (P := P285)) q511 z)
  have hsb529 : rSub P285 P517 := rSub_tr (rSub_rf (P := P285)) hsb519
  have he530 : F518 q288 = .inr (20, [.int p293, .int p294, .int p295, .int p296, .int p297, .int p298, .int p299]) := (hfr520 q288 hmq288 (nm_c (rn_oo heq288 heq287 (by decide)) nm_n)).trans heq288
  have he531 : F518 q289 = .inl (I (.object "java/lang/Object"), n301, .inr (.inr (.inr (.inr f300)))) := (hfr520 q289 hmq289 (nm_c (rn_ao heq289 heq287) nm_n)).trans heq289
  have hfr532 : rFr [q287] P285 F286 F518 := rFr_call (rSub_rf (P := P285)) (rFr_rf (W := []) (P := P285) (F := F286)) hfr520 (fun b hb hn => ⟨nm_n, (nm_c (fun e => hn (e ▸ List.mem_cons_self)) nm_n)⟩)
  change G _ _ _ _ _ _ _ (.ref q511 :: _) _ _ _
  refine G_widen (cs' := 1) (sl' := n301 + n301 / 2 + 1) (by omega) (by omega) ?_
  refine G_astore_n (L' := [(2, .ref q511), (0, .ref q287), (1, .ref q288), (3, .int p290)]) dr_cJx4a65c_add_72be8_10 (Nat.le_of_ble_eq_true rfl) rfl ?_
  refine G_aload_n 0 dr_cJx4a65c_add_72be8_11 rfl ?_
  refine G_iload_n 3 dr_cJx4a65c_add_72be8_12 rfl ?_
  refine G_aload_n 2 dr_cJx4a65c_add_72be8_13 rfl ?_
  refine Gp_aast 4 hm523 he522 dr_cJx4a65c_add_72be8_14 rfl ⟨hm526, _, _, _, _, _, he530, rfl, gr_cast 3 rfl⟩ (gB_inr (by omega) (by omega)) (fun F533 e534 n535 => ?_)
  obtain ⟨f536, hf536⟩ : ∃ z, z = va_up f513 p290.toNatClampNeg (some q288) := ⟨_, rfl⟩
  rw [← hf536] at e534
  have he537 : F533 q288 = .inr (20, [.int p293, .int p294, .int p295, .int p296, .int p297, .int p298, .int p299]) := (n535 q288 (fun h => hq528 (h ▸ hmq288))).trans he530
  have he538 : F533 q289 = .inl (I (.object "java/lang/Object"), n301, .inr (.inr (.inr (.inr f300)))) := (n535 q289 (fun h => hq528 (h ▸ hmq289))).trans he531
  have he539 : F533 q287 = .inr (4, [.int p291, .ref q511, .int p292]) := (n535 q287 (fun h => hq528 (h ▸ hmq287))).trans he521
  have he540 : F533 q511 = .inl (I (.object "java/lang/Object"), n512, .inr (.inr (.inr (.inr f536)))) := e534
  have hfr541 : rFr [q287] P285 F286 F533 := rFr_newp hq528 hfr532 n535
  refine G_aload_n 1 dr_cJx4a65c_add_72be8_15 rfl ?_
  refine G_iload_n 3 dr_cJx4a65c_add_72be8_16 rfl ?_
  refine G_iconst 1 dr_cJx4a65c_add_72be8_17 (by decide +kernel) ?_
  refine G_iadd dr_cJx4a65c_add_72be8_18 (G_nam fun z542 hz542 => ?_)
  have ez542 : z542.toInt = p290.toInt + 1 := by rw [gI_add hz542 bp290 (gBl (show Int32.toInt 1 = 1 by decide)) (by decide) (by decide), show Int32.toInt 1 = 1 from by decide]
  have bz542 : gB z542 1 16777217 := gB_add (gI_add hz542 bp290 (gBl (show Int32.toInt 1 = 1 by decide)) (by decide) (by decide)) bp290 (gBl (show Int32.toInt 1 = 1 by decide)) (by decide) (by decide)
  refine Gp_put 2 hm525 he539 dr_cJx4a65c_add_72be8_19 (gk_Jx4a65c D I) (Nat.le_of_ble_eq_true rfl) wr_7_18 rfl rfl rfl (Nat.le_of_ble_eq_true rfl) (fun F543 e544 n545 => ?_)
  have he546 : F543 q288 = .inr (20, [.int p293, .int p294, .int p295, .int p296, .int p297, .int p298, .int p299]) := (n545 q288 (rn_oo he537 he539 (by decide))).trans he537
  have he547 : F543 q289 = .inl (I (.object "java/lang/Object"), n301, .inr (.inr (.inr (.inr f300)))) := (n545 q289 (rn_ao he538 he539)).trans he538
  have he548 : F543 q511 = .inl (I (.object "java/lang/Object"), n512, .inr (.inr (.inr (.inr f536)))) := (n545 q511 (fun h => hq528 (h ▸ hmq287))).trans he540
  have he549 : F543 q287 = .inr (4, [.int p291, .ref q511, .int z542]) := e544
  have hfr550 : rFr [q287] P285 F286 F543 := rFr_put' List.mem_cons_self hfr541 n545
  exact G_vretA dr_cJx4a65c_add_72be8_22 rfl (Nat.le_of_ble_eq_true rfl) (show n301 + n301 / 2 + 1 ≤ (n301 + n301 / 2 + 1) by omega) ⟨P517, F543, z542, q511, n512, f536, rfl, rfl, hsb529, hfr550, he546, he547, he549, he548, hm523, hq528, (Nat.le_of_ble_eq_true rfl), (by omega), bz542, (by omega), (rI_add (fun j hj => x514 j (by omega)) hf536 (by omega) (by omega)), (rSrcX_up hf536 (rSrc_tr x515 rSrc_rf)), (by omega)⟩
