theorem dr_cE_Throwable_init4_0 : decode cE_Throwable_init4 0 = .ok (.aload_n 0, 1) := by decide +kernel
theorem dr_cE_Throwable_init4_1 : decode cE_Throwable_init4 1 = .ok (.invokespecial 1, 3) := by decide +kernel
theorem wr_4_220 : (Jvm.Cond.methodLink "java/lang/Throwable" (1 : Nat) ({ cls := "java/lang/Object", name := "<init>", desc := "()V" } : Jvm.MethodName)) ∈ gw := gw_4 220 rfl rfl
theorem dr_cE_Throwable_init4_4 : decode cE_Throwable_init4 4 = .ok (.aload_n 0, 1) := by decide +kernel
theorem dr_cE_Throwable_init4_5 : decode cE_Throwable_init4 5 = .ok (.aload_n 0, 1) := by decide +kernel
theorem dr_cE_Throwable_init4_6 : decode cE_Throwable_init4 6 = .ok (.putfield 7, 3) := by decide +kernel
theorem wr_5_15 : (Jvm.Cond.fieldLink "java/lang/Throwable" (7 : Nat) "java/lang/Throwable" "cause" "Ljava/lang/Throwable;") ∈ gw := gw_5 15 rfl rfl
theorem dr_cE_Throwable_init4_9 : decode cE_Throwable_init4 9 = .ok (.aload_n 0, 1) := by decide +kernel
theorem dr_cE_Throwable_init4_10 : decode cE_Throwable_init4 10 = .ok (.getstatic 13, 3) := by decide +kernel
theorem wr_4_221 : (Jvm.Cond.fieldLink "java/lang/Throwable" (13 : Nat) "java/lang/Throwable" "UNASSIGNED_STACK" "[Ljava/lang/StackTraceElement;") ∈ gw := gw_4 221 rfl rfl
theorem dr_cE_Throwable_init4_13 : decode cE_Throwable_init4 13 = .ok (.putfield 17, 3) := by decide +kernel
theorem wr_5_16 : (Jvm.Cond.fieldLink "java/lang/Throwable" (17 : Nat) "java/lang/Throwable" "stackTrace" "[Ljava/lang/StackTraceElement;") ∈ gw := gw_5 16 rfl rfl
theorem dr_cE_Throwable_init4_16 : decode cE_Throwable_init4 16 = .ok (.aload_n 0, 1) := by decide +kernel
theorem dr_cE_Throwable_init4_17 : decode cE_Throwable_init4 17 = .ok (.getstatic 20, 3) := by decide +kernel
theorem wr_4_223 : (Jvm.Cond.fieldLink "java/lang/Throwable" (20 : Nat) "java/lang/Throwable" "SUPPRESSED_SENTINEL" "Ljava/util/List;") ∈ gw := gw_4 223 rfl rfl
theorem dr_cE_Throwable_init4_20 : decode cE_Throwable_init4 20 = .ok (.putfield 24, 3) := by decide +kernel
theorem wr_5_17 : (Jvm.Cond.fieldLink "java/lang/Throwable" (24 : Nat) "java/lang/Throwable" "suppressedExceptions" "Ljava/util/List;") ∈ gw := gw_5 17 rfl rfl
theorem dr_cE_Throwable_init4_23 : decode cE_Throwable_init4 23 = .ok (.iload 4, 2) := by decide +kernel
theorem dr_cE_Throwable_init4_25 : decode cE_Throwable_init4 25 = .ok (.ifCond .eq 11, 3) := by decide +kernel
theorem dr_cE_Throwable_init4_36 : decode cE_Throwable_init4 36 = .ok (.aload_n 0, 1) := by decide +kernel
theorem dr_cE_Throwable_init4_37 : decode cE_Throwable_init4 37 = .ok (.aconst_null, 1) := by decide +kernel
theorem dr_cE_Throwable_init4_38 : decode cE_Throwable_init4 38 = .ok (.putfield 17, 3) := by decide +kernel
theorem dr_cE_Throwable_init4_41 : decode cE_Throwable_init4 41 = .ok (.aload_n 0, 1) := by decide +kernel
theorem dr_cE_Throwable_init4_42 : decode cE_Throwable_init4 42 = .ok (.aload_n 1, 1) := by decide +kernel
theorem dr_cE_Throwable_init4_43 : decode cE_Throwable_init4 43 = .ok (.putfield 31, 3) := by decide +kernel
theorem wr_5_14 : (Jvm.Cond.fieldLink "java/lang/Throwable" (31 : Nat) "java/lang/Throwable" "detailMessage" "Ljava/lang/String;") ∈ gw := gw_5 14 rfl rfl
theorem dr_cE_Throwable_init4_46 : decode cE_Throwable_init4 46 = .ok (.aload_n 0, 1) := by decide +kernel
theorem dr_cE_Throwable_init4_47 : decode cE_Throwable_init4 47 = .ok (.aload_n 2, 1) := by decide +kernel
theorem dr_cE_Throwable_init4_48 : decode cE_Throwable_init4 48 = .ok (.putfield 7, 3) := by decide +kernel
theorem dr_cE_Throwable_init4_51 : decode cE_Throwable_init4 51 = .ok (.iload_n 3, 1) := by decide +kernel
theorem dr_cE_Throwable_init4_52 : decode cE_Throwable_init4 52 = .ok (.ifCond .ne 8, 3) := by decide +kernel
theorem dr_cE_Throwable_init4_55 : decode cE_Throwable_init4 55 = .ok (.aload_n 0, 1) := by decide +kernel
theorem dr_cE_Throwable_init4_56 : decode cE_Throwable_init4 56 = .ok (.aconst_null, 1) := by decide +kernel
theorem dr_cE_Throwable_init4_57 : decode cE_Throwable_init4 57 = .ok (.putfield 24, 3) := by decide +kernel
theorem dr_cE_Throwable_init4_60 : decode cE_Throwable_init4 60 = .ok (.return_, 1) := by decide +kernel
theorem dr_cE_Exception_init4_0 : decode cE_Exception_init4 0 = .ok (.aload_n 0, 1) := by decide +kernel
theorem dr_cE_Exception_init4_1 : decode cE_Exception_init4 1 = .ok (.aload_n 1, 1) := by decide +kernel
theorem dr_cE_Exception_init4_2 : decode cE_Exception_init4 2 = .ok (.aload_n 2, 1) := by decide +kernel
theorem dr_cE_Exception_init4_3 : decode cE_Exception_init4 3 = .ok (.iload_n 3, 1) := by decide +kernel
theorem dr_cE_Exception_init4_4 : decode cE_Exception_init4 4 = .ok (.iload 4, 2) := by decide +kernel
theorem dr_cE_Exception_init4_6 : decode cE_Exception_init4 6 = .ok (.invokespecial 16, 3) := by decide +kernel
theorem wr_9_119 : (Jvm.Cond.methodLink "java/lang/Exception" (16 : Nat) ({ cls := "java/lang/Throwable", name := "<init>", desc := "(Ljava/lang/String;Ljava/lang/Throwable;ZZ)V" } : Jvm.MethodName)) ∈ gw := gw_9 119 rfl rfl
theorem wr_1_23 : (Jvm.Cond.initialized "java/lang/Throwable") ∈ gw := gw_1 23 rfl rfl
theorem wr_9_121 : (Jvm.Cond.code ({ cls := "java/lang/Throwable", name := "<init>", desc := "(Ljava/lang/String;Ljava/lang/Throwable;ZZ)V" } : Jvm.MethodName) prog_40_method_5_code (5 : Nat) (Option.none : Option Jvm.ClassFile.FieldType)) ∈ gw := gw_9 121 rfl rfl
theorem wr_9_120 : (Jvm.Cond.instanceMethod ({ cls := "java/lang/Throwable", name := "<init>", desc := "(Ljava/lang/String;Ljava/lang/Throwable;ZZ)V" } : Jvm.MethodName)) ∈ gw := gw_9 120 rfl rfl
theorem dr_cE_Exception_init4_9 : decode cE_Exception_init4 9 = .ok (.return_, 1) := by decide +kernel
theorem dr_cE_RuntimeException_init4_0 : decode cE_RuntimeException_init4 0 = .ok (.aload_n 0, 1) := by decide +kernel
theorem dr_cE_RuntimeException_init4_1 : decode cE_RuntimeException_init4 1 = .ok (.aload_n 1, 1) := by decide +kernel
theorem dr_cE_RuntimeException_init4_2 : decode cE_RuntimeException_init4 2 = .ok (.aload_n 2, 1) := by decide +kernel
theorem dr_cE_RuntimeException_init4_3 : decode cE_RuntimeException_init4 3 = .ok (.iload_n 3, 1) := by decide +kernel
theorem dr_cE_RuntimeException_init4_4 : decode cE_RuntimeException_init4 4 = .ok (.iload 4, 2) := by decide +kernel
theorem dr_cE_RuntimeException_init4_6 : decode cE_RuntimeException_init4 6 = .ok (.invokespecial 16, 3) := by decide +kernel
theorem wr_9_116 : (Jvm.Cond.methodLink "java/lang/RuntimeException" (16 : Nat) ({ cls := "java/lang/Exception", name := "<init>", desc := "(Ljava/lang/String;Ljava/lang/Throwable;ZZ)V" } : Jvm.MethodName)) ∈ gw := gw_9 116 rfl rfl
theorem wr_1_24 : (Jvm.Cond.initialized "java/lang/Exception") ∈ gw := gw_1 24 rfl rfl
theorem wr_9_118 : (Jvm.Cond.code ({ cls := "java/lang/Exception", name := "<init>", desc := "(Ljava/lang/String;Ljava/lang/Throwable;ZZ)V" } : Jvm.MethodName) prog_25_method_5_code (5 : Nat) (Option.none : Option Jvm.ClassFile.FieldType)) ∈ gw := gw_9 118 rfl rfl
theorem wr_9_117 : (Jvm.Cond.instanceMethod ({ cls := "java/lang/Exception", name := "<init>", desc := "(Ljava/lang/String;Ljava/lang/Throwable;ZZ)V" } : Jvm.MethodName)) ∈ gw := gw_9 117 rfl rfl
theorem dr_cE_RuntimeException_init4_9 : decode cE_RuntimeException_init4 9 = .ok (.return_, 1) := by decide +kernel
theorem dr_cX16_init_0 : decode cX16_init 0 = .ok (.aload_n 0, 1) := by decide +kernel
theorem dr_cX16_init_1 : decode cX16_init 1 = .ok (.aconst_null, 1) := by decide +kernel
theorem dr_cX16_init_2 : decode cX16_init 2 = .ok (.aconst_null, 1) := by decide +kernel
theorem dr_cX16_init_3 : decode cX16_init 3 = .ok (.iconst 0, 1) := by decide +kernel
theorem dr_cX16_init_4 : decode cX16_init 4 = .ok (.iconst 0, 1) := by decide +kernel
theorem dr_cX16_init_5 : decode cX16_init 5 = .ok (.invokespecial 1, 3) := by decide +kernel
theorem wr_9_113 : (Jvm.Cond.methodLink "SpillForgeModel$Wrong" (1 : Nat) ({ cls := "java/lang/RuntimeException", name := "<init>", desc := "(Ljava/lang/String;Ljava/lang/Throwable;ZZ)V" } : Jvm.MethodName)) ∈ gw := gw_9 113 rfl rfl
theorem wr_1_25 : (Jvm.Cond.initialized "java/lang/RuntimeException") ∈ gw := gw_1 25 rfl rfl
theorem wr_9_115 : (Jvm.Cond.code ({ cls := "java/lang/RuntimeException", name := "<init>", desc := "(Ljava/lang/String;Ljava/lang/Throwable;ZZ)V" } : Jvm.MethodName) prog_33_method_5_code (5 : Nat) (Option.none : Option Jvm.ClassFile.FieldType)) ∈ gw := gw_9 115 rfl rfl
theorem wr_9_114 : (Jvm.Cond.instanceMethod ({ cls := "java/lang/RuntimeException", name := "<init>", desc := "(Ljava/lang/String;Ljava/lang/Throwable;ZZ)V" } : Jvm.MethodName)) ∈ gw := gw_9 114 rfl rfl
theorem dr_cX16_init_8 : decode cX16_init 8 = .ok (.aload_n 0, 1) := by decide +kernel
theorem dr_cX16_init_9 : decode cX16_init 9 = .ok (.iload_n 1, 1) := by decide +kernel
theorem dr_cX16_init_10 : decode cX16_init 10 = .ok (.putfield 7, 3) := by decide +kernel
theorem wr_9_122 : (Jvm.Cond.fieldLink "SpillForgeModel$Wrong" (7 : Nat) "SpillForgeModel$Wrong" "place" "I") ∈ gw := gw_9 122 rfl rfl
theorem dr_cX16_init_13 : decode cX16_init 13 = .ok (.return_, 1) := by decide +kernel
theorem dr_cX14_no_0 : decode cX14_no 0 = .ok (.new 124, 3) := by decide +kernel
theorem wr_9_101 : (Jvm.Cond.classLink "SpillForgeModel$Reader" (124 : Nat) "SpillForgeModel$Wrong") ∈ gw := gw_9 101 rfl rfl
theorem wr_9_102 : (Jvm.Cond.instantiable "SpillForgeModel$Wrong" (7 : Nat)) ∈ gw := gw_9 102 rfl rfl
theorem wr_1_37 : (Jvm.Cond.initialized "SpillForgeModel$Wrong") ∈ gw := gw_1 37 rfl rfl
theorem dr_cX14_no_3 : decode cX14_no 3 = .ok (.dup, 1) := by decide +kernel
theorem dr_cX14_no_4 : decode cX14_no 4 = .ok (.aload_n 0, 1) := by decide +kernel
theorem dr_cX14_no_5 : decode cX14_no 5 = .ok (.getfield 47, 3) := by decide +kernel
theorem dr_cX14_no_8 : decode cX14_no 8 = .ok (.invokespecial 126, 3) := by decide +kernel
theorem wr_9_110 : (Jvm.Cond.methodLink "SpillForgeModel$Reader" (126 : Nat) ({ cls := "SpillForgeModel$Wrong", name := "<init>", desc := "(I)V" } : Jvm.MethodName)) ∈ gw := gw_9 110 rfl rfl
theorem wr_9_112 : (Jvm.Cond.code ({ cls := "SpillForgeModel$Wrong", name := "<init>", desc := "(I)V" } : Jvm.MethodName) prog_19_method_1_code (2 : Nat) (Option.none : Option Jvm.ClassFile.FieldType)) ∈ gw := gw_9 112 rfl rfl
theorem wr_9_111 : (Jvm.Cond.instanceMethod ({ cls := "SpillForgeModel$Wrong", name := "<init>", desc := "(I)V" } : Jvm.MethodName)) ∈ gw := gw_9 111 rfl rfl
theorem dr_cX14_no_11 : decode cX14_no 11 = .ok (.areturn, 1) := by decide +kernel
theorem dr_cX14_is_0 : decode cX14_is 0 = .ok (.aload_n 0, 1) := by decide +kernel
theorem dr_cX14_is_1 : decode cX14_is 1 = .ok (.getfield 38, 3) := by decide +kernel
theorem dr_cX14_is_4 : decode cX14_is 4 = .ok (.iconst 5, 1) := by decide +kernel
theorem dr_cX14_is_5 : decode cX14_is 5 = .ok (.if_icmp .eq 11, 3) := by decide +kernel
theorem dr_cX14_is_16 : decode cX14_is 16 = .ok (.aload_n 0, 1) := by decide +kernel
theorem dr_cX14_is_17 : decode cX14_is 17 = .ok (.getfield 11, 3) := by decide +kernel
theorem dr_cX14_is_20 : decode cX14_is 20 = .ok (.aload_n 1, 1) := by decide +kernel
theorem dr_cX14_is_21 : decode cX14_is 21 = .ok (.invokevirtual 128, 3) := by decide +kernel
theorem wr_9_145 : (Jvm.Cond.methodLink "SpillForgeModel$Reader" (128 : Nat) ({ cls := "java/lang/String", name := "equals", desc := "(Ljava/lang/Object;)Z" } : Jvm.MethodName)) ∈ gw := gw_9 145 rfl rfl
theorem wr_9_148 : (Jvm.Cond.code ({ cls := "java/lang/String", name := "equals", desc := "(Ljava/lang/Object;)Z" } : Jvm.MethodName) prog_34_method_66_code (3 : Nat) (Option.some Jvm.ClassFile.FieldType.boolean)) ∈ gw := gw_9 148 rfl rfl
theorem wr_9_146 : (Jvm.Cond.instanceMethod ({ cls := "java/lang/String", name := "equals", desc := "(Ljava/lang/Object;)Z" } : Jvm.MethodName)) ∈ gw := gw_9 146 rfl rfl
theorem wr_9_147 : (Jvm.Cond.selects "java/lang/String" ({ cls := "java/lang/String", name := "equals", desc := "(Ljava/lang/Object;)Z" } : Jvm.MethodName) ({ cls := "java/lang/String", name := "equals", desc := "(Ljava/lang/Object;)Z" } : Jvm.MethodName)) ∈ gw := gw_9 147 rfl rfl
theorem dr_cX14_is_24 : decode cX14_is 24 = .ok (.ifCond .eq 7, 3) := by decide +kernel
theorem dr_cX14_is_31 : decode cX14_is 31 = .ok (.iconst 0, 1) := by decide +kernel
theorem dr_cX14_is_32 : decode cX14_is 32 = .ok (.ireturn, 1) := by decide +kernel
theorem dr_cX14_is_27 : decode cX14_is 27 = .ok (.iconst 1, 1) := by decide +kernel
theorem dr_cX14_is_28 : decode cX14_is 28 = .ok (.goto 4, 3) := by decide +kernel
theorem dr_cX14_is_8 : decode cX14_is 8 = .ok (.aload_n 0, 1) := by decide +kernel
theorem dr_cX14_is_9 : decode cX14_is 9 = .ok (.getfield 38, 3) := by decide +kernel
theorem dr_cX14_is_12 : decode cX14_is 12 = .ok (.iconst 1, 1) := by decide +kernel
theorem dr_cX14_is_13 : decode cX14_is 13 = .ok (.if_icmp .ne 18, 3) := by decide +kernel
theorem dr_cX14_want_0 : decode cX14_want 0 = .ok (.aload_n 0, 1) := by decide +kernel
theorem dr_cX14_want_1 : decode cX14_want 1 = .ok (.aload_n 1, 1) := by decide +kernel
theorem dr_cX14_want_2 : decode cX14_want 2 = .ok (.invokevirtual 132, 3) := by decide +kernel
theorem wr_9_141 : (Jvm.Cond.methodLink "SpillForgeModel$Reader" (132 : Nat) ({ cls := "SpillForgeModel$Reader", name := "is", desc := "(Ljava/lang/String;)Z" } : Jvm.MethodName)) ∈ gw := gw_9 141 rfl rfl
theorem wr_9_144 : (Jvm.Cond.code ({ cls := "SpillForgeModel$Reader", name := "is", desc := "(Ljava/lang/String;)Z" } : Jvm.MethodName) prog_17_method_9_code (2 : Nat) (Option.some Jvm.ClassFile.FieldType.boolean)) ∈ gw := gw_9 144 rfl rfl
theorem wr_9_143 : (Jvm.Cond.instanceMethod ({ cls := "SpillForgeModel$Reader", name := "is", desc := "(Ljava/lang/String;)Z" } : Jvm.MethodName)) ∈ gw := gw_9 143 rfl rfl
theorem wr_p_84 : Cond.selects "SpillForgeModel$Reader" ⟨"SpillForgeModel$Reader", "is", "(Ljava/lang/String;)Z"⟩ ⟨"SpillForgeModel$Reader", "is", "(Ljava/lang/String;)Z"⟩ ∈ gw := gw_p _ 84 rfl rfl rfl
theorem dr_cX14_want_5 : decode cX14_want 5 = .ok (.ifCond .ne 8, 3) := by decide +kernel
theorem dr_cX14_want_13 : decode cX14_want 13 = .ok (.aload_n 0, 1) := by decide +kernel
theorem dr_cX14_want_14 : decode cX14_want 14 = .ok (.invokevirtual 35, 3) := by decide +kernel
theorem wr_7_215 : (Jvm.Cond.methodLink "SpillForgeModel$Reader" (35 : Nat) ({ cls := "SpillForgeModel$Reader", name := "next", desc := "()V" } : Jvm.MethodName)) ∈ gw := gw_7 215 rfl rfl
theorem wr_7_218 : (Jvm.Cond.code ({ cls := "SpillForgeModel$Reader", name := "next", desc := "()V" } : Jvm.MethodName) prog_17_method_4_code (3 : Nat) (Option.none : Option Jvm.ClassFile.FieldType)) ∈ gw := gw_7 218 rfl rfl
theorem wr_7_217 : (Jvm.Cond.instanceMethod ({ cls := "SpillForgeModel$Reader", name := "next", desc := "()V" } : Jvm.MethodName)) ∈ gw := gw_7 217 rfl rfl
theorem wr_p_75 : Cond.selects "SpillForgeModel$Reader" ⟨"SpillForgeModel$Reader", "next", "()V"⟩ ⟨"SpillForgeModel$Reader", "next", "()V"⟩ ∈ gw := gw_p _ 75 rfl rfl rfl
theorem dr_cX14_want_17 : decode cX14_want 17 = .ok (.return_, 1) := by decide +kernel
theorem dr_cX14_want_8 : decode cX14_want 8 = .ok (.aload_n 0, 1) := by decide +kernel
theorem dr_cX14_want_9 : decode cX14_want 9 = .ok (.invokevirtual 136, 3) := by decide +kernel
theorem wr_9_97 : (Jvm.Cond.methodLink "SpillForgeModel$Reader" (136 : Nat) ({ cls := "SpillForgeModel$Reader", name := "no", desc := "()LSpillForgeModel$Wrong;" } : Jvm.MethodName)) ∈ gw := gw_9 97 rfl rfl
theorem wr_9_100 : (Jvm.Cond.code ({ cls := "SpillForgeModel$Reader", name := "no", desc := "()LSpillForgeModel$Wrong;" } : Jvm.MethodName) prog_17_method_8_code (1 : Nat) (Option.some (Jvm.ClassFile.FieldType.object "SpillForgeModel$Wrong"))) ∈ gw := gw_9 100 rfl rfl
theorem wr_9_99 : (Jvm.Cond.instanceMethod ({ cls := "SpillForgeModel$Reader", name := "no", desc := "()LSpillForgeModel$Wrong;" } : Jvm.MethodName)) ∈ gw := gw_9 99 rfl rfl
theorem wr_p_81 : Cond.selects "SpillForgeModel$Reader" ⟨"SpillForgeModel$Reader", "no", "()LSpillForgeModel$Wrong;"⟩ ⟨"SpillForgeModel$Reader", "no", "()LSpillForgeModel$Wrong;"⟩ ∈ gw := gw_p _ 81 rfl rfl rfl
theorem dr_cX14_want_12 : decode cX14_want 12 = .ok (.athrow, 1) := by decide +kernel
theorem dr_cX14_want__0 : decode cX14_want_ 0 = .ok (.aload_n 0, 1) := by decide +kernel
theorem dr_cX14_want__1 : decode cX14_want_ 1 = .ok (.getfield 38, 3) := by decide +kernel
theorem dr_cX14_want__4 : decode cX14_want_ 4 = .ok (.iload_n 1, 1) := by decide +kernel
theorem dr_cX14_want__5 : decode cX14_want_ 5 = .ok (.if_icmp .eq 8, 3) := by decide +kernel
theorem dr_cX14_want__13 : decode cX14_want_ 13 = .ok (.aload_n 0, 1) := by decide +kernel
theorem dr_cX14_want__14 : decode cX14_want_ 14 = .ok (.getfield 80, 3) := by decide +kernel
theorem dr_cX14_want__17 : decode cX14_want_ 17 = .ok (.istore_n 2, 1) := by decide +kernel
theorem dr_cX14_want__18 : decode cX14_want_ 18 = .ok (.aload_n 0, 1) := by decide +kernel
theorem dr_cX14_want__19 : decode cX14_want_ 19 = .ok (.invokevirtual 35, 3) := by decide +kernel
theorem dr_cX14_want__22 : decode cX14_want_ 22 = .ok (.iload_n 2, 1) := by decide +kernel
theorem dr_cX14_want__23 : decode cX14_want_ 23 = .ok (.ireturn, 1) := by decide +kernel
theorem dr_cX14_want__8 : decode cX14_want_ 8 = .ok (.aload_n 0, 1) := by decide +kernel
theorem dr_cX14_want__9 : decode cX14_want_ 9 = .ok (.invokevirtual 136, 3) := by decide +kernel
theorem dr_cX14_want__12 : decode cX14_want_ 12 = .ok (.athrow, 1) := by decide +kernel
abbrev ky_655420_Throwable_init : gKey := (cE_Throwable_init4, 5, "java/lang/Throwable", none, [], "<init>", fun _ _ => True)
def pp_655420_Throwable_init (D : va_G) (I : FieldType → ClassId) (P655415 : List Nat) (F655416 : Nat → va_E) (q655417 : Nat) (p655418 : Int32) (p655419 : Int32) : Option Value → va_W → Nat → Nat → Prop := fun r w dc ds => ∃ (F655546 : Nat → va_E), r = none ∧ w = va_pl P655415 F655546 ∧ rFr [q655417] P655415 F655416 F655546 ∧ F655546 q655417 = .inr (21, [.null, .null, .null, .null, .null, .int p655418, .int p655419]) ∧ dc ≤ 0 ∧ ds ≤ 0
set_option maxRecDepth 100000 in
set_option maxHeartbeats 4000000 in
theorem cp_655420_Throwable_init (l : Launch) (hl0 : l.stackTraces = false) (D : va_G) (I : FieldType → ClassId) (P655415 : List Nat) (F655416 : Nat → va_E) (q655417 : Nat) (p655418 : Int32) (p655419 : Int32) (hmq655417 : q655417 ∈ P655415) (heq655417 : F655416 q655417 = .inr (21, [.null, .null, .null, .null, .null, .int p655418, .int p655419])) (bp655419 : gB p655419 0 8192) : CtA (gV D I) l yE_Throwable_init4 cE_Throwable_init4 5 none 1 12 0 0 [.ref q655417, .null, .null, .int 0, .int 0] (va_pl P655415 F655416) (pp_655420_Throwable_init D I P655415 F655416 q655417 p655418 p655419) gNA := by
  refine CtA_ofF hl0 (by decide +kernel) (Nat.le_of_ble_eq_true rfl) ?_
  have bp655418 := gB_any p655418
  refine G_aload_n 0 dr_cE_Throwable_init4_0 rfl ?_
  refine G_obj dr_cE_Throwable_init4_1 wr_4_220 wr_1_51 wr_1_52 (Nat.le_of_ble_eq_true rfl) (Nat.le_of_ble_eq_true rfl) ?_
  refine G_aload_n 0 dr_cE_Throwable_init4_4 rfl ?_
  refine G_aload_n 0 dr_cE_Throwable_init4_5 rfl ?_
  refine Gp_put 0 hmq655417 heq655417 dr_cE_Throwable_init4_6 (gk_X16 D I) (Nat.le_of_ble_eq_true rfl) wr_5_15 rfl rfl rfl (Nat.le_of_ble_eq_true rfl) (fun F655421 e655422 n655423 => ?_)
  have he655424 : F655421 q655417 = .inr (21, [.ref q655417, .null, .null, .null, .null, .int p655418, .int p655419]) := e655422
  have hfr655425 : rFr [q655417] P655415 F655416 F655421 := rFr_put (rFr_rf (W := []) (P := P655415) (F := F655416)) n655423
  refine G_aload_n 0 dr_cE_Throwable_init4_9 rfl ?_
  refine G_gets dr_cE_Throwable_init4_10 wr_4_221 gz_us (fun x655428 hx655427 => ?_)
  rcases hx655427 with rfl | ⟨t655426, rfl⟩
  · refine Gp_put 1 hmq655417 he655424 dr_cE_Throwable_init4_13 (gk_X16 D I) (Nat.le_of_ble_eq_true rfl) wr_5_16 rfl rfl rfl (Nat.le_of_ble_eq_true rfl) (fun F655429 e655430 n655431 => ?_)
    have he655432 : F655429 q655417 = .inr (21, [.ref q655417, .null, .null, .null, .null, .int p655418, .int p655419]) := e655430
    have hfr655433 : rFr [q655417] P655415 F655416 F655429 := rFr_put' List.mem_cons_self hfr655425 n655431
    refine G_aload_n 0 dr_cE_Throwable_init4_16 rfl ?_
    refine G_gets dr_cE_Throwable_init4_17 wr_4_223 gz_ss (fun x655436 hx655435 => ?_)
    rcases hx655435 with rfl | ⟨t655434, rfl⟩
    · refine Gp_put 2 hmq655417 he655432 dr_cE_Throwable_init4_20 (gk_X16 D I) (Nat.le_of_ble_eq_true rfl) wr_5_17 rfl rfl rfl (Nat.le_of_ble_eq_true rfl) (fun F655437 e655438 n655439 => ?_)
      have he655440 : F655437 q655417 = .inr (21, [.ref q655417, .null, .null, .null, .null, .int p655418, .int p655419]) := e655438
      have hfr655441 : rFr [q655417] P655415 F655416 F655437 := rFr_put' List.mem_cons_self hfr655433 n655439
      refine G_iload 4 dr_cE_Throwable_init4_23 rfl ?_
      refine G_if_eq 36 dr_cE_Throwable_init4_25 (by decide +kernel) (fun _ => ?_) (fun hc => absurd hc (by decide))
      refine G_aload_n 0 dr_cE_Throwable_init4_36 rfl ?_
      refine G_null dr_cE_Throwable_init4_37 ?_
      refine Gp_put 1 hmq655417 he655440 dr_cE_Throwable_init4_38 (gk_X16 D I) (Nat.le_of_ble_eq_true rfl) wr_5_16 rfl rfl rfl (Nat.le_of_ble_eq_true rfl) (fun F655442 e655443 n655444 => ?_)
      have he655445 : F655442 q655417 = .inr (21, [.ref q655417, .null, .null, .null, .null, .int p655418, .int p655419]) := e655443
      have hfr655446 : rFr [q655417] P655415 F655416 F655442 := rFr_put' List.mem_cons_self hfr655441 n655444
      refine G_aload_n 0 dr_cE_Throwable_init4_41 rfl ?_
      refine G_aload_nN 1 dr_cE_Throwable_init4_42 rfl ?_
      refine Gp_put 3 hmq655417 he655445 dr_cE_Throwable_init4_43 (gk_X16 D I) (Nat.le_of_ble_eq_true rfl) wr_5_14 rfl rfl rfl (Nat.le_of_ble_eq_true rfl) (fun F655447 e655448 n655449 => ?_)
      have he655450 : F655447 q655417 = .inr (21, [.ref q655417, .null, .null, .null, .null, .int p655418, .int p655419]) := e655448
      have hfr655451 : rFr [q655417] P655415 F655416 F655447 := rFr_put' List.mem_cons_self hfr655446 n655449
      refine G_aload_n 0 dr_cE_Throwable_init4_46 rfl ?_
      refine G_aload_nN 2 dr_cE_Throwable_init4_47 rfl ?_
      refine Gp_put 0 hmq655417 he655450 dr_cE_Throwable_init4_48 (gk_X16 D I) (Nat.le_of_ble_eq_true rfl) wr_5_15 rfl rfl rfl (Nat.le_of_ble_eq_true rfl) (fun F655452 e655453 n655454 => ?_)
      have he655455 : F655452 q655417 = .inr (21, [.null, .null, .null, .null, .null, .int p655418, .int p655419]) := e655453
      have hfr655456 : rFr [q655417] P655415 F655416 F655452 := rFr_put' List.mem_cons_self hfr655451 n655454
      refine G_iload_n 3 dr_cE_Throwable_init4_51 rfl ?_
      refine G_if_ne 60 dr_cE_Throwable_init4_52 (by decide +kernel) (fun hc => absurd hc (by decide)) (fun _ => ?_)
      refine G_aload_n 0 dr_cE_Throwable_init4_55 rfl ?_
      refine G_null dr_cE_Throwable_init4_56 ?_
      refine Gp_put 2 hmq655417 he655455 dr_cE_Throwable_init4_57 (gk_X16 D I) (Nat.le_of_ble_eq_true rfl) wr_5_17 rfl rfl rfl (Nat.le_of_ble_eq_true rfl) (fun F655457 e655458 n655459 => ?_)
      have he655460 : F655457 q655417 = .inr (21, [.null, .null, .null, .null, .null, .int p655418, .int p655419]) := e655458
      have hfr655461 : rFr [q655417] P655415 F655416 F655457 := rFr_put' List.mem_cons_self hfr655456 n655459
      exact G_vretA dr_cE_Throwable_init4_60 rfl (Nat.le_of_ble_eq_true rfl) (Nat.le_of_ble_eq_true rfl) ⟨F655457, rfl, rfl, hfr655461, he655460, (Nat.le_of_ble_eq_true rfl), (Nat.le_of_ble_eq_true rfl)⟩
    · refine Gp_put 2 hmq655417 he655432 dr_cE_Throwable_init4_20 (gk_X16 D I) (Nat.le_of_ble_eq_true rfl) wr_5_17 rfl rfl rfl (Nat.le_of_ble_eq_true rfl) (fun F655462 e655463 n655464 => ?_)
      have he655465 : F655462 q655417 = .inr (21, [.ref q655417, .null, .ref t655434, .null, .null, .int p655418, .int p655419]) := e655463
      have hfr655466 : rFr [q655417] P655415 F655416 F655462 := rFr_put' List.mem_cons_self hfr655433 n655464
      refine G_iload 4 dr_cE_Throwable_init4_23 rfl ?_
      refine G_if_eq 36 dr_cE_Throwable_init4_25 (by decide +kernel) (fun _ => ?_) (fun hc => absurd hc (by decide))
      refine G_aload_n 0 dr_cE_Throwable_init4_36 rfl ?_
      refine G_null dr_cE_Throwable_init4_37 ?_
      refine Gp_put 1 hmq655417 he655465 dr_cE_Throwable_init4_38 (gk_X16 D I) (Nat.le_of_ble_eq_true rfl) wr_5_16 rfl rfl rfl (Nat.le_of_ble_eq_true rfl) (fun F655467 e655468 n655469 => ?_)
      have he655470 : F655467 q655417 = .inr (21, [.ref q655417, .null, .ref t655434, .null, .null, .int p655418, .int p655419]) := e655468
      have hfr655471 : rFr [q655417] P655415 F655416 F655467 := rFr_put' List.mem_cons_self hfr655466 n655469
      refine G_aload_n 0 dr_cE_Throwable_init4_41 rfl ?_
      refine G_aload_nN 1 dr_cE_Throwable_init4_42 rfl ?_
      refine Gp_put 3 hmq655417 he655470 dr_cE_Throwable_init4_43 (gk_X16 D I) (Nat.le_of_ble_eq_true rfl) wr_5_14 rfl rfl rfl (Nat.le_of_ble_eq_true rfl) (fun F655472 e655473 n655474 => ?_)
      have he655475 : F655472 q655417 = .inr (21, [.ref q655417, .null, .ref t655434, .null, .null, .int p655418, .int p655419]) := e655473
      have hfr655476 : rFr [q655417] P655415 F655416 F655472 := rFr_put' List.mem_cons_self hfr655471 n655474
      refine G_aload_n 0 dr_cE_Throwable_init4_46 rfl ?_
      refine G_aload_nN 2 dr_cE_Throwable_init4_47 rfl ?_
      refine Gp_put 0 hmq655417 he655475 dr_cE_Throwable_init4_48 (gk_X16 D I) (Nat.le_of_ble_eq_true rfl) wr_5_15 rfl rfl rfl (Nat.le_of_ble_eq_true rfl) (fun F655477 e655478 n655479 => ?_)
      have he655480 : F655477 q655417 = .inr (21, [.null, .null, .ref t655434, .null, .null, .int p655418, .int p655419]) := e655478
      have hfr655481 : rFr [q655417] P655415 F655416 F655477 := rFr_put' List.mem_cons_self hfr655476 n655479
      refine G_iload_n 3 dr_cE_Throwable_init4_51 rfl ?_
      refine G_if_ne 60 dr_cE_Throwable_init4_52 (by decide +kernel) (fun hc => absurd hc (by decide)) (fun _ => ?_)
      refine G_aload_n 0 dr_cE_Throwable_init4_55 rfl ?_
      refine G_null dr_cE_Throwable_init4_56 ?_
      refine Gp_put 2 hmq655417 he655480 dr_cE_Throwable_init4_57 (gk_X16 D I) (Nat.le_of_ble_eq_true rfl) wr_5_17 rfl rfl rfl (Nat.le_of_ble_eq_true rfl) (fun F655482 e655483 n655484 => ?_)
      have he655485 : F655482 q655417 = .inr (21, [.null, .null, .null, .null, .null, .int p655418, .int p655419]) := e655483
      have hfr655486 : rFr [q655417] P655415 F655416 F655482 := rFr_put' List.mem_cons_self hfr655481 n655484
      exact G_vretA dr_cE_Throwable_init4_60 rfl (Nat.le_of_ble_eq_true rfl) (Nat.le_of_ble_eq_true rfl) ⟨F655482, rfl, rfl, hfr655486, he655485, (Nat.le_of_ble_eq_true rfl), (Nat.le_of_ble_eq_true rfl)⟩
  · refine Gp_put 1 hmq655417 he655424 dr_cE_Throwable_init4_13 (gk_X16 D I) (Nat.le_of_ble_eq_true rfl) wr_5_16 rfl rfl rfl (Nat.le_of_ble_eq_true rfl) (fun F655487 e655488 n655489 => ?_)
    have he655490 : F655487 q655417 = .inr (21, [.ref q655417, .ref t655426, .null, .null, .null, .int p655418, .int p655419]) := e655488
    have hfr655491 : rFr [q655417] P655415 F655416 F655487 := rFr_put' List.mem_cons_self hfr655425 n655489
    refine G_aload_n 0 dr_cE_Throwable_init4_16 rfl ?_
    refine G_gets dr_cE_Throwable_init4_17 wr_4_223 gz_ss (fun x655494 hx655493 => ?_)
    rcases hx655493 with rfl | ⟨t655492, rfl⟩
    · refine Gp_put 2 hmq655417 he655490 dr_cE_Throwable_init4_20 (gk_X16 D I) (Nat.le_of_ble_eq_true rfl) wr_5_17 rfl rfl rfl (Nat.le_of_ble_eq_true rfl) (fun F655495 e655496 n655497 => ?_)
      have he655498 : F655495 q655417 = .inr (21, [.ref q655417, .ref t655426, .null, .null, .null, .int p655418, .int p655419]) := e655496
      have hfr655499 : rFr [q655417] P655415 F655416 F655495 := rFr_put' List.mem_cons_self hfr655491 n655497
      refine G_iload 4 dr_cE_Throwable_init4_23 rfl ?_
      refine G_if_eq 36 dr_cE_Throwable_init4_25 (by decide +kernel) (fun _ => ?_) (fun hc => absurd hc (by decide))
      refine G_aload_n 0 dr_cE_Throwable_init4_36 rfl ?_
      refine G_null dr_cE_Throwable_init4_37 ?_
      refine Gp_put 1 hmq655417 he655498 dr_cE_Throwable_init4_38 (gk_X16 D I) (Nat.le_of_ble_eq_true rfl) wr_5_16 rfl rfl rfl (Nat.le_of_ble_eq_true rfl) (fun F655500 e655501 n655502 => ?_)
      have he655503 : F655500 q655417 = .inr (21, [.ref q655417, .null, .null, .null, .null, .int p655418, .int p655419]) := e655501
      have hfr655504 : rFr [q655417] P655415 F655416 F655500 := rFr_put' List.mem_cons_self hfr655499 n655502
      refine G_aload_n 0 dr_cE_Throwable_init4_41 rfl ?_
      refine G_aload_nN 1 dr_cE_Throwable_init4_42 rfl ?_
      refine Gp_put 3 hmq655417 he655503 dr_cE_Throwable_init4_43 (gk_X16 D I) (Nat.le_of_ble_eq_true rfl) wr_5_14 rfl rfl rfl (Nat.le_of_ble_eq_true rfl) (fun F655505 e655506 n655507 => ?_)
      have he655508 : F655505 q655417 = .inr (21, [.ref q655417, .null, .null, .null, .null, .int p655418, .int p655419]) := e655506
      have hfr655509 : rFr [q655417] P655415 F655416 F655505 := rFr_put' List.mem_cons_self hfr655504 n655507
      refine G_aload_n 0 dr_cE_Throwable_init4_46 rfl ?_
      refine G_aload_nN 2 dr_cE_Throwable_init4_47 rfl ?_
      refine Gp_put 0 hmq655417 he655508 dr_cE_Throwable_init4_48 (gk_X16 D I) (Nat.le_of_ble_eq_true rfl) wr_5_15 rfl rfl rfl (Nat.le_of_ble_eq_true rfl) (fun F655510 e655511 n655512 => ?_)
      have he655513 : F655510 q655417 = .inr (21, [.null, .null, .null, .null, .null, .int p655418, .int p655419]) := e655511
      have hfr655514 : rFr [q655417] P655415 F655416 F655510 := rFr_put' List.mem_cons_self hfr655509 n655512
      refine G_iload_n 3 dr_cE_Throwable_init4_51 rfl ?_
      refine G_if_ne 60 dr_cE_Throwable_init4_52 (by decide +kernel) (fun hc => absurd hc (by decide)) (fun _ => ?_)
      refine G_aload_n 0 dr_cE_Throwable_init4_55 rfl ?_
      refine G_null dr_cE_Throwable_init4_56 ?_
      refine Gp_put 2 hmq655417 he655513 dr_cE_Throwable_init4_57 (gk_X16 D I) (Nat.le_of_ble_eq_true rfl) wr_5_17 rfl rfl rfl (Nat.le_of_ble_eq_true rfl) (fun F655515 e655516 n655517 => ?_)
      have he655518 : F655515 q655417 = .inr (21, [.null, .null, .null, .null, .null, .int p655418, .int p655419]) := e655516
      have hfr655519 : rFr [q655417] P655415 F655416 F655515 := rFr_put' List.mem_cons_self hfr655514 n655517
      exact G_vretA dr_cE_Throwable_init4_60 rfl (Nat.le_of_ble_eq_true rfl) (Nat.le_of_ble_eq_true rfl) ⟨F655515, rfl, rfl, hfr655519, he655518, (Nat.le_of_ble_eq_true rfl), (Nat.le_of_ble_eq_true rfl)⟩
    · refine Gp_put 2 hmq655417 he655490 dr_cE_Throwable_init4_20 (gk_X16 D I) (Nat.le_of_ble_eq_true rfl) wr_5_17 rfl rfl rfl (Nat.le_of_ble_eq_true rfl) (fun F655520 e655521 n655522 => ?_)
      have he655523 : F655520 q655417 = .inr (21, [.ref q655417, .ref t655426, .ref t655492, .null, .null, .int p655418, .int p655419]) := e655521
      have hfr655524 : rFr [q655417] P655415 F655416 F655520 := rFr_put' List.mem_cons_self hfr655491 n655522
      refine G_iload 4 dr_cE_Throwable_init4_23 rfl ?_
      refine G_if_eq 36 dr_cE_Throwable_init4_25 (by decide +kernel) (fun _ => ?_) (fun hc => absurd hc (by decide))
      refine G_aload_n 0 dr_cE_Throwable_init4_36 rfl ?_
      refine G_null dr_cE_Throwable_init4_37 ?_
      refine Gp_put 1 hmq655417 he655523 dr_cE_Throwable_init4_38 (gk_X16 D I) (Nat.le_of_ble_eq_true rfl) wr_5_16 rfl rfl rfl (Nat.le_of_ble_eq_true rfl) (fun F655525 e655526 n655527 => ?_)
      have he655528 : F655525 q655417 = .inr (21, [.ref q655417, .null, .ref t655492, .null, .null, .int p655418, .int p655419]) := e655526
      have hfr655529 : rFr [q655417] P655415 F655416 F655525 := rFr_put' List.mem_cons_self hfr655524 n655527
      refine G_aload_n 0 dr_cE_Throwable_init4_41 rfl ?_
      refine G_aload_nN 1 dr_cE_Throwable_init4_42 rfl ?_
      refine Gp_put 3 hmq655417 he655528 dr_cE_Throwable_init4_43 (gk_X16 D I) (Nat.le_of_ble_eq_true rfl) wr_5_14 rfl rfl rfl (Nat.le_of_ble_eq_true rfl) (fun F655530 e655531 n655532 => ?_)
      have he655533 : F655530 q655417 = .inr (21, [.ref q655417, .null, .ref t655492, .null, .null, .int p655418, .int p655419]) := e655531
      have hfr655534 : rFr [q655417] P655415 F655416 F655530 := rFr_put' List.mem_cons_self hfr655529 n655532
      refine G_aload_n 0 dr_cE_Throwable_init4_46 rfl ?_
      refine G_aload_nN 2 dr_cE_Throwable_init4_47 rfl ?_
      refine Gp_put 0 hmq655417 he655533 dr_cE_Throwable_init4_48 (gk_X16 D I) (Nat.le_of_ble_eq_true rfl) wr_5_15 rfl rfl rfl (Nat.le_of_ble_eq_true rfl) (fun F655535 e655536 n655537 => ?_)
      have he655538 : F655535 q655417 = .inr (21, [.null, .null, .ref t655492, .null, .null, .int p655418, .int p655419]) := e655536
      have hfr655539 : rFr [q655417] P655415 F655416 F655535 := rFr_put' List.mem_cons_self hfr655534 n655537
      refine G_iload_n 3 dr_cE_Throwable_init4_51 rfl ?_
      refine G_if_ne 60 dr_cE_Throwable_init4_52 (by decide +kernel) (fun hc => absurd hc (by decide)) (fun _ => ?_)
      refine G_aload_n 0 dr_cE_Throwable_init4_55 rfl ?_
      refine G_null dr_cE_Throwable_init4_56 ?_
      refine Gp_put 2 hmq655417 he655538 dr_cE_Throwable_init4_57 (gk_X16 D I) (Nat.le_of_ble_eq_true rfl) wr_5_17 rfl rfl rfl (Nat.le_of_ble_eq_true rfl) (fun F655540 e655541 n655542 => ?_)
      have he655543 : F655540 q655417 = .inr (21, [.null, .null, .null, .null, .null, .int p655418, .int p655419]) := e655541
      have hfr655544 : rFr [q655417] P655415 F655416 F655540 := rFr_put' List.mem_cons_self hfr655539 n655542
      exact G_vretA dr_cE_Throwable_init4_60 rfl (Nat.le_of_ble_eq_true rfl) (Nat.le_of_ble_eq_true rfl) ⟨F655540, rfl, rfl, hfr655544, he655543, (Nat.le_of_ble_eq_true rfl), (Nat.le_of_ble_eq_true rfl)⟩
abbrev ky_655414_Exception_init : gKey := (cE_Exception_init4, 5, "java/lang/Exception", none, [], "<init>", fun _ _ => True)
def pp_655414_Exception_init (D : va_G) (I : FieldType → ClassId) (P655409 : List Nat) (F655410 : Nat → va_E) (q655411 : Nat) (p655412 : Int32) (p655413 : Int32) : Option Value → va_W → Nat → Nat → Prop := fun r w dc ds => ∃ (F655558 : Nat → va_E), r = none ∧ w = va_pl P655409 F655558 ∧ rFr [q655411] P655409 F655410 F655558 ∧ F655558 q655411 = .inr (21, [.null, .null, .null, .null, .null, .int p655412, .int p655413]) ∧ dc ≤ 0 ∧ ds ≤ 0
set_option maxRecDepth 100000 in
set_option maxHeartbeats 4000000 in
theorem cp_655414_Exception_init (l : Launch) (hl0 : l.stackTraces = false) (D : va_G) (I : FieldType → ClassId) (P655409 : List Nat) (F655410 : Nat → va_E) (q655411 : Nat) (p655412 : Int32) (p655413 : Int32) (hmq655411 : q655411 ∈ P655409) (heq655411 : F655410 q655411 = .inr (21, [.null, .null, .null, .null, .null, .int p655412, .int p655413])) (bp655413 : gB p655413 0 8192) : CtA (gV D I) l yE_Exception_init4 cE_Exception_init4 5 none 2 36 0 0 [.ref q655411, .null, .null, .int 0, .int 0] (va_pl P655409 F655410) (pp_655414_Exception_init D I P655409 F655410 q655411 p655412 p655413) gNA := by
  refine CtA_ofF hl0 (by decide +kernel) (Nat.le_of_ble_eq_true rfl) ?_
  have bp655412 := gB_any p655412
  refine G_aload_n 0 dr_cE_Exception_init4_0 rfl ?_
  refine G_aload_nN 1 dr_cE_Exception_init4_1 rfl ?_
  refine G_aload_nN 2 dr_cE_Exception_init4_2 rfl ?_
  refine G_iload_n 3 dr_cE_Exception_init4_3 rfl ?_
  refine G_iload 4 dr_cE_Exception_init4_4 rfl ?_
  refine Gw_callI (As := [.null, .null, .int 0, .int 0]) (gV_ok D I) (cp_655420_Throwable_init l hl0 D I P655409 F655410 q655411 p655412 p655413 hmq655411 heq655411 bp655413) dr_cE_Exception_init4_6 ⟨wr_9_119, wr_1_23, wr_9_121, by decide, rfl, (Nat.le_of_ble_eq_true rfl), (Nat.le_of_ble_eq_true rfl)⟩ wr_9_120 rfl (show 0 + 0 ≤ 0 by first | omega | decide) (show 0 + 0 ≤ 0 by first | omega | decide) (Nat.le_of_ble_eq_true rfl) (fun r655550 w655551 dc655547 ds655548 hp655549 => ?_)
  obtain ⟨F655552, rfl, rfl, hfr655554, he655555, hdc, hds⟩ := hp655549
  have hfr655556 : rFr [q655411] P655409 F655410 F655552 := rFr_call (rSub_rf (P := P655409)) (rFr_rf (W := []) (P := P655409) (F := F655410)) hfr655554 (fun b hb hn => ⟨nm_n, (nm_c (fun e => hn (e ▸ List.mem_cons_self)) nm_n)⟩)
  change G _ _ _ _ _ _ _ _ _ _ _
  refine G_widen (cs' := 0) (sl' := 0) (by omega) (by omega) ?_
  exact G_vretA dr_cE_Exception_init4_9 rfl (Nat.le_of_ble_eq_true rfl) (Nat.le_of_ble_eq_true rfl) ⟨F655552, rfl, rfl, hfr655556, he655555, (Nat.le_of_ble_eq_true rfl), (Nat.le_of_ble_eq_true rfl)⟩
abbrev ky_655408_RuntimeException_init : gKey := (cE_RuntimeException_init4, 5, "java/lang/RuntimeException", none, [], "<init>", fun _ _ => True)
def pp_655408_RuntimeException_init (D : va_G) (I : FieldType → ClassId) (P655403 : List Nat) (F655404 : Nat → va_E) (q655405 : Nat) (p655406 : Int32) (p655407 : Int32) : Option Value → va_W → Nat → Nat → Prop := fun r w dc ds => ∃ (F655570 : Nat → va_E), r = none ∧ w = va_pl P655403 F655570 ∧ rFr [q655405] P655403 F655404 F655570 ∧ F655570 q655405 = .inr (21, [.null, .null, .null, .null, .null, .int p655406, .int p655407]) ∧ dc ≤ 0 ∧ ds ≤ 0
set_option maxRecDepth 100000 in
set_option maxHeartbeats 4000000 in
theorem cp_655408_RuntimeException_init (l : Launch) (hl0 : l.stackTraces = false) (D : va_G) (I : FieldType → ClassId) (P655403 : List Nat) (F655404 : Nat → va_E) (q655405 : Nat) (p655406 : Int32) (p655407 : Int32) (hmq655405 : q655405 ∈ P655403) (heq655405 : F655404 q655405 = .inr (21, [.null, .null, .null, .null, .null, .int p655406, .int p655407])) (bp655407 : gB p655407 0 8192) : CtA (gV D I) l yE_RuntimeException_init4 cE_RuntimeException_init4 5 none 3 60 0 0 [.ref q655405, .null, .null, .int 0, .int 0] (va_pl P655403 F655404) (pp_655408_RuntimeException_init D I P655403 F655404 q655405 p655406 p655407) gNA := by
  refine CtA_ofF hl0 (by decide +kernel) (Nat.le_of_ble_eq_true rfl) ?_
  have bp655406 := gB_any p655406
  refine G_aload_n 0 dr_cE_RuntimeException_init4_0 rfl ?_
  refine G_aload_nN 1 dr_cE_RuntimeException_init4_1 rfl ?_
  refine G_aload_nN 2 dr_cE_RuntimeException_init4_2 rfl ?_
  refine G_iload_n 3 dr_cE_RuntimeException_init4_3 rfl ?_
  refine G_iload 4 dr_cE_RuntimeException_init4_4 rfl ?_
  refine Gw_callI (As := [.null, .null, .int 0, .int 0]) (gV_ok D I) (cp_655414_Exception_init l hl0 D I P655403 F655404 q655405 p655406 p655407 hmq655405 heq655405 bp655407) dr_cE_RuntimeException_init4_6 ⟨wr_9_116, wr_1_24, wr_9_118, by decide, rfl, (Nat.le_of_ble_eq_true rfl), (Nat.le_of_ble_eq_true rfl)⟩ wr_9_117 rfl (show 0 + 0 ≤ 0 by first | omega | decide) (show 0 + 0 ≤ 0 by first | omega | decide) (Nat.le_of_ble_eq_true rfl) (fun r655562 w655563 dc655559 ds655560 hp655561 => ?_)
  obtain ⟨F655564, rfl, rfl, hfr655566, he655567, hdc, hds⟩ := hp655561
  have hfr655568 : rFr [q655405] P655403 F655404 F655564 := rFr_call (rSub_rf (P := P655403)) (rFr_rf (W := []) (P := P655403) (F := F655404)) hfr655566 (fun b hb hn => ⟨nm_n, (nm_c (fun e => hn (e ▸ List.mem_cons_self)) nm_n)⟩)
  change G _ _ _ _ _ _ _ _ _ _ _
  refine G_widen (cs' := 0) (sl' := 0) (by omega) (by omega) ?_
  exact G_vretA dr_cE_RuntimeException_init4_9 rfl (Nat.le_of_ble_eq_true rfl) (Nat.le_of_ble_eq_true rfl) ⟨F655564, rfl, rfl, hfr655568, he655567, (Nat.le_of_ble_eq_true rfl), (Nat.le_of_ble_eq_true rfl)⟩
abbrev ky_655402_Wrong_init : gKey := (cX16_init, 2, "SpillForgeModel$Wrong", none, [], "<init>", fun _ _ => True)
def pp_655402_Wrong_init (D : va_G) (I : FieldType → ClassId) (P655396 : List Nat) (F655397 : Nat → va_E) (q655398 : Nat) (p655399 : Int32) (p655400 : Int32) (p655401 : Int32) : Option Value → va_W → Nat → Nat → Prop := fun r w dc ds => ∃ (F655587 : Nat → va_E), r = none ∧ w = va_pl P655396 F655587 ∧ rFr [q655398] P655396 F655397 F655587 ∧ F655587 q655398 = .inr (21, [.null, .null, .null, .null, .null, .int p655400, .int p655399]) ∧ dc ≤ 0 ∧ ds ≤ 0
set_option maxRecDepth 100000 in
set_option maxHeartbeats 4000000 in
theorem cp_655402_Wrong_init (l : Launch) (hl0 : l.stackTraces = false) (D : va_G) (I : FieldType → ClassId) (P655396 : List Nat) (F655397 : Nat → va_E) (q655398 : Nat) (p655399 : Int32) (p655400 : Int32) (p655401 : Int32) (hmq655398 : q655398 ∈ P655396) (heq655398 : F655397 q655398 = .inr (21, [.null, .null, .null, .null, .null, .int p655400, .int p655401])) (bp655401 : gB p655401 0 8192) : CtA (gV D I) l yX16_init cX16_init 2 none 4 84 0 0 [.ref q655398, .int p655399] (va_pl P655396 F655397) (pp_655402_Wrong_init D I P655396 F655397 q655398 p655399 p655400 p655401) gNA := by
  refine CtA_of hl0 (by decide) (Nat.le_of_ble_eq_true rfl) ?_
  have bp655399 := gB_any p655399
  have bp655400 := gB_any p655400
  refine G_aload_n 0 dr_cX16_init_0 rfl ?_
  refine G_null dr_cX16_init_1 ?_
  refine G_null dr_cX16_init_2 ?_
  refine G_iconst 0 dr_cX16_init_3 (by decide +kernel) ?_
  refine G_iconst 0 dr_cX16_init_4 (by decide +kernel) ?_
  refine Gw_callI (As := [.null, .null, .int 0, .int 0]) (gV_ok D I) (cp_655408_RuntimeException_init l hl0 D I P655396 F655397 q655398 p655400 p655401 hmq655398 heq655398 bp655401) dr_cX16_init_5 ⟨wr_9_113, wr_1_25, wr_9_115, by decide, rfl, (Nat.le_of_ble_eq_true rfl), (Nat.le_of_ble_eq_true rfl)⟩ wr_9_114 rfl (show 0 + 0 ≤ 0 by first | omega | decide) (show 0 + 0 ≤ 0 by first | omega | decide) (Nat.le_of_ble_eq_true rfl) (fun r655574 w655575 dc655571 ds655572 hp655573 => ?_)
  obtain ⟨F655576, rfl, rfl, hfr655578, he655579, hdc, hds⟩ := hp655573
  have hfr655580 : rFr [q655398] P655396 F655397 F655576 := rFr_call (rSub_rf (P := P655396)) (rFr_rf (W := []) (P := P655396) (F := F655397)) hfr655578 (fun b hb hn => ⟨nm_n, (nm_c (fun e => hn (e ▸ List.mem_cons_self)) nm_n)⟩)
  change G _ _ _ _ _ _ _ _ _ _ _
  refine G_widen (cs' := 0) (sl' := 0) (by omega) (by omega) ?_
  refine G_aload_n 0 dr_cX16_init_8 rfl ?_
  refine G_iload_n 1 dr_cX16_init_9 rfl ?_
  refine Gp_putF 6 hmq655398 he655579 dr_cX16_init_10 (gk_X16 D I) (Nat.le_of_ble_eq_true rfl) wr_9_122 rfl rfl rfl rfl rfl (Nat.le_of_ble_eq_true rfl) (fun F655581 e655582 n655583 => ?_)
  have he655584 : F655581 q655398 = .inr (21, [.null, .null, .null, .null, .null, .int p655400, .int p655399]) := e655582
  have hfr655585 : rFr [q655398] P655396 F655397 F655581 := rFr_put' List.mem_cons_self hfr655580 n655583
  exact G_vretA dr_cX16_init_13 rfl (Nat.le_of_ble_eq_true rfl) (Nat.le_of_ble_eq_true rfl) ⟨F655581, rfl, rfl, hfr655585, he655584, (Nat.le_of_ble_eq_true rfl), (Nat.le_of_ble_eq_true rfl)⟩
abbrev ky_655379_Reader_no : gKey := (cX14_no, 1, "SpillForgeModel$Reader", (some (FieldType.object "SpillForgeModel$Wrong")), [], "no", fun _ _ => True)
def pp_655379_Reader_no (D : va_G) (I : FieldType → ClassId) (P655361 : List Nat) (F655362 : Nat → va_E) (q655363 : Nat) (q655364 : Nat) (p655365 : Int32) (p655366 : Int32) (p655367 : Int32) (p655368 : Int32) (p655369 : Int32) (p655370 : Int32) (qo655371 : Nat) (p655372 : Int32) (p655373 : Int32) (p655374 : Int32) (qo655375 : Nat) (qo655376 : Nat) (p655377 : Int32) (f655378 : Nat → Int32) : Option Value → va_W → Nat → Nat → Prop := fun r w dc ds => ∃ (P655601 : List Nat) (F655602 : Nat → va_E) (q655600 : Nat), r = some (.ref q655600) ∧ w = va_pl P655601 F655602 ∧ rSub P655361 P655601 ∧ rFr [] P655361 F655362 F655602 ∧ F655602 q655363 = .inr (19, [.ref q655364, .int p655365, .int p655366, .int p655367, .int p655368, .int p655369, .int p655370, .ref qo655371, .int p655372, .int p655373, .int p655374, .ref qo655375, .ref qo655376, .int p655377]) ∧ F655602 q655364 = .inl (I .byte, 8192, .inl f655378) ∧ F655602 q655600 = .inr (21, [.null, .null, .null, .null, .null, .int 0, .int p655368]) ∧ q655600 ∈ P655601 ∧ q655600 ∉ P655361 ∧ dc ≤ 1 ∧ ds ≤ 7
set_option maxRecDepth 100000 in
set_option maxHeartbeats 4000000 in
theorem cp_655379_Reader_no (l : Launch) (hl0 : l.stackTraces = false) (D : va_G) (I : FieldType → ClassId) (P655361 : List Nat) (F655362 : Nat → va_E) (q655363 : Nat) (q655364 : Nat) (p655365 : Int32) (p655366 : Int32) (p655367 : Int32) (p655368 : Int32) (p655369 : Int32) (p655370 : Int32) (qo655371 : Nat) (p655372 : Int32) (p655373 : Int32) (p655374 : Int32) (qo655375 : Nat) (qo655376 : Nat) (p655377 : Int32) (f655378 : Nat → Int32) (hmq655363 : q655363 ∈ P655361) (hmq655364 : q655364 ∈ P655361) (heq655363 : F655362 q655363 = .inr (19, [.ref q655364, .int p655365, .int p655366, .int p655367, .int p655368, .int p655369, .int p655370, .ref qo655371, .int p655372, .int p655373, .int p655374, .ref qo655375, .ref qo655376, .int p655377])) (heq655364 : F655362 q655364 = .inl (I .byte, 8192, .inl f655378)) (bp655365 : gB p655365 0 8192) (bp655366 : gB p655366 0 8192) (bp655367 : gB p655367 0 6) (bp655368 : gB p655368 0 8192) (bp655370 : gB p655370 0 6) (bp655372 : gB p655372 (-1) 8192) (bp655373 : gB p655373 0 4) (bp655374 : gB p655374 0 1000000) (bp655377 : gB p655377 0 1000000) (bf655378 : gF f655378 (-128) 127) : CtA (gV D I) l yX14_no cX14_no 1 (some (FieldType.object "SpillForgeModel$Wrong")) 5 105 1 7 [.ref q655363] (va_pl P655361 F655362) (pp_655379_Reader_no D I P655361 F655362 q655363 q655364 p655365 p655366 p655367 p655368 p655369 p655370 qo655371 p655372 p655373 p655374 qo655375 qo655376 p655377 f655378) gNA := by
  refine CtA_of hl0 (by decide) (Nat.le_of_ble_eq_true rfl) ?_
  have bp655369 := gB_any p655369
  refine G_new [.null, .null, .null, .null, .null, .int 0, .int 0] dr_cX14_no_0 (gk_X16 D I) wr_9_101 wr_9_102 wr_1_37 (gfs_X16) (show 0 + 1 ≤ 1 by first | omega | decide) (show 0 + 7 ≤ 7 by first | omega | decide) (fun q655380 => Gp_in (fun P655381 F655382 hq655383 hP655384 e655385 n655386 => ?_))
  refine G_widen (cs' := 1) (sl' := 7) (by omega) (by omega) ?_
  have he655387 : F655382 q655363 = .inr (19, [.ref q655364, .int p655365, .int p655366, .int p655367, .int p655368, .int p655369, .int p655370, .ref qo655371, .int p655372, .int p655373, .int p655374, .ref qo655375, .ref qo655376, .int p655377]) := (n655386 q655363 (fun h => hq655383 (h ▸ hmq655363))).trans heq655363
  have he655388 : F655382 q655364 = .inl (I .byte, 8192, .inl f655378) := (n655386 q655364 (fun h => hq655383 (h ▸ hmq655364))).trans heq655364
  have he655389 : F655382 q655380 = .inr (21, [.null, .null, .null, .null, .null, .int 0, .int 0]) := e655385
  have hm655390 : q655363 ∈ P655381 := (hP655384 q655363).mpr (Or.inl hmq655363)
  have hm655391 : q655364 ∈ P655381 := (hP655384 q655364).mpr (Or.inl hmq655364)
  have hm655392 : q655380 ∈ P655381 := (hP655384 q655380).mpr (Or.inr rfl)
  have hq655393 : q655380 ∉ P655361 := fun z => hq655383 ((rSub_rf (P := P655361)) q655380 z)
  have hfr655394 : rFr [] P655361 F655362 F655382 := rFr_new (rSub_rf (P := P655361)) hq655383 (rFr_rf (W := []) (P := P655361) (F := F655362)) n655386
  have hsb655395 : rSub P655361 P655381 := rSub_new (rSub_rf (P := P655361)) hP655384
  refine G_dup dr_cX14_no_3 rfl ?_
  refine G_aload_n 0 dr_cX14_no_4 rfl ?_
  refine Gp_get 4 hm655390 he655387 dr_cX14_no_5 (gk_X14 D I) (Nat.le_of_ble_eq_true rfl) wr_9_40 rfl ?_
  refine Gw_callI (As := [.int p655368]) (gV_ok D I) (cp_655402_Wrong_init l hl0 D I P655381 F655382 q655380 p655368 0 0 hm655392 he655389 (gB_w (gBl (show Int32.toInt 0 = 0 by decide)) (by decide) (by decide))) dr_cX14_no_8 ⟨wr_9_110, wr_1_37, wr_9_112, by decide, rfl, (Nat.le_of_ble_eq_true rfl), (Nat.le_of_ble_eq_true rfl)⟩ wr_9_111 rfl (show 1 + 0 ≤ 1 by first | omega | decide) (show 7 + 0 ≤ 7 by first | omega | decide) (Nat.le_of_ble_eq_true rfl) (fun r655591 w655592 dc655588 ds655589 hp655590 => ?_)
  obtain ⟨F655593, rfl, rfl, hfr655595, he655596, hdc, hds⟩ := hp655590
  have he655597 : F655593 q655363 = .inr (19, [.ref q655364, .int p655365, .int p655366, .int p655367, .int p655368, .int p655369, .int p655370, .ref qo655371, .int p655372, .int p655373, .int p655374, .ref qo655375, .ref qo655376, .int p655377]) := (hfr655595 q655363 hm655390 (nm_c (fun h => hq655393 (h ▸ hmq655363)) nm_n)).trans he655387
  have he655598 : F655593 q655364 = .inl (I .byte, 8192, .inl f655378) := (hfr655595 q655364 hm655391 (nm_c (fun h => hq655393 (h ▸ hmq655364)) nm_n)).trans he655388
  have hfr655599 : rFr [] P655361 F655362 F655593 := rFr_call hsb655395 hfr655394 hfr655595 (fun b hb hn => ⟨nm_n, (nm_c (fun e => hq655393 (e ▸ hb)) nm_n)⟩)
  change G _ _ _ _ _ _ _ _ _ _ _
  refine G_widen (cs' := 1) (sl' := 7) (by omega) (by omega) ?_
  exact G_aretA (FieldType.object "SpillForgeModel$Wrong") dr_cX14_no_11 rfl (by first | exact Or.inl ⟨_, rfl⟩ | exact Or.inr ⟨_, rfl⟩) (Or.inr ⟨_, rfl⟩) (Nat.le_of_ble_eq_true rfl) (Nat.le_of_ble_eq_true rfl) ⟨P655381, F655593, q655380, rfl, rfl, hsb655395, hfr655599, he655597, he655598, he655596, hm655392, hq655393, (Nat.le_of_ble_eq_true rfl), (Nat.le_of_ble_eq_true rfl)⟩
abbrev ky_655625_Reader_is : gKey := (cX14_is, 2, "SpillForgeModel$Reader", (some FieldType.boolean), [], "is", fun _ _ => True)
def pp_655625_Reader_is (D : va_G) (I : FieldType → ClassId) (P655603 : List Nat) (F655604 : Nat → va_E) (q655605 : Nat) (q655606 : Nat) (qs655607 : Nat) (qb655608 : Nat) (bs655609 : List Int32) (p655610 : Int32) (p655611 : Int32) (p655612 : Int32) (p655613 : Int32) (p655614 : Int32) (p655615 : Int32) (qo655616 : Nat) (p655617 : Int32) (p655618 : Int32) (p655619 : Int32) (qo655620 : Nat) (qo655621 : Nat) (p655622 : Int32) (f655623 : Nat → Int32) : Option Value → va_W → Nat → Nat → Prop := fun r w dc ds => ∃ (o655680 : Int32), r = some (.int o655680) ∧ w = va_pl P655603 F655604 ∧ dc ≤ 0 ∧ ds ≤ 0 ∧ gB o655680 0 1
set_option maxRecDepth 100000 in
set_option maxHeartbeats 4000000 in
theorem cp_655625_Reader_is (l : Launch) (hl0 : l.stackTraces = false) (D : va_G) (I : FieldType → ClassId) (P655603 : List Nat) (F655604 : Nat → va_E) (q655605 : Nat) (q655606 : Nat) (qs655607 : Nat) (qb655608 : Nat) (bs655609 : List Int32) (p655610 : Int32) (p655611 : Int32) (p655612 : Int32) (p655613 : Int32) (p655614 : Int32) (p655615 : Int32) (qo655616 : Nat) (p655617 : Int32) (p655618 : Int32) (p655619 : Int32) (qo655620 : Nat) (qo655621 : Nat) (p655622 : Int32) (f655623 : Nat → Int32) (hmq655605 : q655605 ∈ P655603) (hmq655606 : q655606 ∈ P655603) (heq655605 : F655604 q655605 = .inr (19, [.ref q655606, .int p655610, .int p655611, .int p655612, .int p655613, .int p655614, .int p655615, .ref qo655616, .int p655617, .int p655618, .int p655619, .ref qo655620, .ref qo655621, .int p655622])) (heq655606 : F655604 q655606 = .inl (I .byte, 8192, .inl f655623)) (hbs655609 : ∀ A s H, (gV D I).2.2.2.1 A s H → gSC qs655607 qb655608 bs655609 A s H) (nbs655609 : (bs655609.length : Int) ≤ 65535) (lbs655609 : gLB bs655609) (bp655610 : gB p655610 0 8192) (bp655611 : gB p655611 0 8192) (bp655612 : gB p655612 0 6) (bp655613 : gB p655613 0 8192) (bp655615 : gB p655615 0 6) (bp655617 : gB p655617 (-1) 8192) (bp655618 : gB p655618 0 4) (bp655619 : gB p655619 0 1000000) (bp655622 : gB p655622 0 1000000) (bf655623 : gF f655623 (-128) 127) (x655624 : tP I P655603 F655604 p655612 qo655616 qo655621 qo655620) : CtA (gV D I) l yX14_is cX14_is 2 (some FieldType.boolean) 2 44 0 0 [.ref q655605, .ref qs655607] (va_pl P655603 F655604) (pp_655625_Reader_is D I P655603 F655604 q655605 q655606 qs655607 qb655608 bs655609 p655610 p655611 p655612 p655613 p655614 p655615 qo655616 p655617 p655618 p655619 qo655620 qo655621 p655622 f655623) gNA := by
  refine CtA_of hl0 (by decide) (Nat.le_of_ble_eq_true rfl) ?_
  have bp655614 := gB_any p655614
  refine G_aload_n 0 dr_cX14_is_0 rfl ?_
  refine Gp_get 3 hmq655605 heq655605 dr_cX14_is_1 (gk_X14 D I) (Nat.le_of_ble_eq_true rfl) wr_9_39 rfl ?_
  refine G_iconst 5 dr_cX14_is_4 (by decide +kernel) ?_
  refine G_icmp_eq 16 dr_cX14_is_5 (by decide +kernel) (fun hc655626 => ?_) (fun hc655626 => ?_)
  · have r655627 : p655612.toInt = 5 := gj_eq hc655626 (show Int32.toInt 5 = 5 by decide)
    have bp655612' : gB p655612 5 5 := ⟨by omega, by omega⟩
    refine G_aload_n 0 dr_cX14_is_16 rfl ?_
    refine Gp_get 7 hmq655605 heq655605 dr_cX14_is_17 (gk_X14 D I) (Nat.le_of_ble_eq_true rfl) wr_9_43 rfl ?_
    obtain ⟨q655628, n655629, f655630, p655631, p655632, hm655633, he655634, hm655635, he655636, bf655630, x655637, bp655632, hg655638, hg655639⟩ := x655624.2 (by omega)
    have bp655631 := gB_any p655631
    refine G_aload_n 1 dr_cX14_is_20 rfl ?_
    refine Gw_callV (As := [.ref qs655607]) (gV_ok D I) (cp_641573_String_equals l hl0 D I P655603 F655604 qo655616 q655628 qs655607 qb655608 bs655609 p655631 p655632 f655630 n655629 hm655633 hm655635 he655634 he655636 hbs655609 nbs655609 lbs655609 bp655632 bf655630 (by have qa0 : Int32.toInt 0 = 0 := (by decide); omega)) dr_cX14_is_21 ⟨wr_9_145, wr_1_21, wr_9_148, by decide, rfl, (Nat.le_of_ble_eq_true rfl), (Nat.le_of_ble_eq_true rfl)⟩ wr_9_146 wr_9_147 hm655633 he655634 rfl (show 0 + 0 ≤ 0 by first | omega | decide) (show 0 + 0 ≤ 0 by first | omega | decide) (Nat.le_of_ble_eq_true rfl) (fun r655643 w655644 dc655640 ds655641 hp655642 => ?_) (fun _ _ _ _ _ z => z.elim)
    rcases hp655642 with ⟨o655645, rfl, rfl, hdc, hds, r655646, r655647⟩ | ⟨o655648, rfl, rfl, hdc, hds, r655649, r655650⟩ | ⟨rfl, rfl, hdc, hds⟩
    · change G _ _ _ _ _ _ _ (.int 0 :: _) _ _ _
      refine G_widen (cs' := 0) (sl' := 0) (by omega) (by omega) ?_
      refine G_if_eq 31 dr_cX14_is_24 (by decide +kernel) (fun _ => ?_) (fun hc => absurd hc (by decide))
      refine G_iconst 0 dr_cX14_is_31 (by decide +kernel) ?_
      exact G_zretA FieldType.boolean dr_cX14_is_32 rfl rfl (Nat.le_of_ble_eq_true rfl) (Nat.le_of_ble_eq_true rfl) ⟨0, rfl, rfl, (Nat.le_of_ble_eq_true rfl), (Nat.le_of_ble_eq_true rfl), (gB_w (gBl (show Int32.toInt 0 = 0 by decide)) (by decide) (by decide))⟩
    · change G _ _ _ _ _ _ _ (.int 1 :: _) _ _ _
      refine G_widen (cs' := 0) (sl' := 0) (by omega) (by omega) ?_
      refine G_if_eq 31 dr_cX14_is_24 (by decide +kernel) (fun hc => absurd hc (by decide)) (fun _ => ?_)
      refine G_iconst 1 dr_cX14_is_27 (by decide +kernel) ?_
      refine G_goto 32 dr_cX14_is_28 (by decide +kernel) ?_
      exact G_zretA FieldType.boolean dr_cX14_is_32 rfl rfl (Nat.le_of_ble_eq_true rfl) (Nat.le_of_ble_eq_true rfl) ⟨1, rfl, rfl, (Nat.le_of_ble_eq_true rfl), (Nat.le_of_ble_eq_true rfl), (gB_w (gBl (show Int32.toInt 1 = 1 by decide)) (by decide) (by decide))⟩
    · change G _ _ _ _ _ _ _ (.int 1 :: _) _ _ _
      refine G_widen (cs' := 0) (sl' := 0) (by omega) (by omega) ?_
      refine G_if_eq 31 dr_cX14_is_24 (by decide +kernel) (fun hc => absurd hc (by decide)) (fun _ => ?_)
      refine G_iconst 1 dr_cX14_is_27 (by decide +kernel) ?_
      refine G_goto 32 dr_cX14_is_28 (by decide +kernel) ?_
      exact G_zretA FieldType.boolean dr_cX14_is_32 rfl rfl (Nat.le_of_ble_eq_true rfl) (Nat.le_of_ble_eq_true rfl) ⟨1, rfl, rfl, (Nat.le_of_ble_eq_true rfl), (Nat.le_of_ble_eq_true rfl), (gB_w (gBl (show Int32.toInt 1 = 1 by decide)) (by decide) (by decide))⟩
  · have r655652 : p655612.toInt ≠ 5 := gj_neq hc655626 (show Int32.toInt 5 = 5 by decide)
    refine G_aload_n 0 dr_cX14_is_8 rfl ?_
    refine Gp_get 3 hmq655605 heq655605 dr_cX14_is_9 (gk_X14 D I) (Nat.le_of_ble_eq_true rfl) wr_9_39 rfl ?_
    refine G_iconst 1 dr_cX14_is_12 (by decide +kernel) ?_
    refine G_icmp_ne 31 dr_cX14_is_13 (by decide +kernel) (fun hc655653 => ?_) (fun hc655653 => ?_)
    · have r655654 : p655612.toInt ≠ 1 := gj_neq hc655653 (show Int32.toInt 1 = 1 by decide)
      refine G_iconst 0 dr_cX14_is_31 (by decide +kernel) ?_
      exact G_zretA FieldType.boolean dr_cX14_is_32 rfl rfl (Nat.le_of_ble_eq_true rfl) (Nat.le_of_ble_eq_true rfl) ⟨0, rfl, rfl, (Nat.le_of_ble_eq_true rfl), (Nat.le_of_ble_eq_true rfl), (gB_w (gBl (show Int32.toInt 0 = 0 by decide)) (by decide) (by decide))⟩
    · have r655655 : p655612.toInt = 1 := gj_eq hc655653 (show Int32.toInt 1 = 1 by decide)
      have bp655612' : gB p655612 1 1 := ⟨by omega, by omega⟩
      refine G_aload_n 0 dr_cX14_is_16 rfl ?_
      refine Gp_get 7 hmq655605 heq655605 dr_cX14_is_17 (gk_X14 D I) (Nat.le_of_ble_eq_true rfl) wr_9_43 rfl ?_
      obtain ⟨q655656, n655657, f655658, p655659, p655660, hm655661, he655662, hm655663, he655664, bf655658, x655665, bp655660, hg655666, hg655667⟩ := x655624.1 (by omega)
      have bp655659 := gB_any p655659
      refine G_aload_n 1 dr_cX14_is_20 rfl ?_
      refine Gw_callV (As := [.ref qs655607]) (gV_ok D I) (cp_641573_String_equals l hl0 D I P655603 F655604 qo655616 q655656 qs655607 qb655608 bs655609 p655659 p655660 f655658 n655657 hm655661 hm655663 he655662 he655664 hbs655609 nbs655609 lbs655609 bp655660 bf655658 (by have qa0 : Int32.toInt 0 = 0 := (by decide); omega)) dr_cX14_is_21 ⟨wr_9_145, wr_1_21, wr_9_148, by decide, rfl, (Nat.le_of_ble_eq_true rfl), (Nat.le_of_ble_eq_true rfl)⟩ wr_9_146 wr_9_147 hm655661 he655662 rfl (show 0 + 0 ≤ 0 by first | omega | decide) (show 0 + 0 ≤ 0 by first | omega | decide) (Nat.le_of_ble_eq_true rfl) (fun r655671 w655672 dc655668 ds655669 hp655670 => ?_) (fun _ _ _ _ _ z => z.elim)
      rcases hp655670 with ⟨o655673, rfl, rfl, hdc, hds, r655674, r655675⟩ | ⟨o655676, rfl, rfl, hdc, hds, r655677, r655678⟩ | ⟨rfl, rfl, hdc, hds⟩
      · change G _ _ _ _ _ _ _ (.int 0 :: _) _ _ _
        refine G_widen (cs' := 0) (sl' := 0) (by omega) (by omega) ?_
        refine G_if_eq 31 dr_cX14_is_24 (by decide +kernel) (fun _ => ?_) (fun hc => absurd hc (by decide))
        refine G_iconst 0 dr_cX14_is_31 (by decide +kernel) ?_
        exact G_zretA FieldType.boolean dr_cX14_is_32 rfl rfl (Nat.le_of_ble_eq_true rfl) (Nat.le_of_ble_eq_true rfl) ⟨0, rfl, rfl, (Nat.le_of_ble_eq_true rfl), (Nat.le_of_ble_eq_true rfl), (gB_w (gBl (show Int32.toInt 0 = 0 by decide)) (by decide) (by decide))⟩
      · change G _ _ _ _ _ _ _ (.int 1 :: _) _ _ _
        refine G_widen (cs' := 0) (sl' := 0) (by omega) (by omega) ?_
        refine G_if_eq 31 dr_cX14_is_24 (by decide +kernel) (fun hc => absurd hc (by decide)) (fun _ => ?_)
        refine G_iconst 1 dr_cX14_is_27 (by decide +kernel) ?_
        refine G_goto 32 dr_cX14_is_28 (by decide +kernel) ?_
        exact G_zretA FieldType.boolean dr_cX14_is_32 rfl rfl (Nat.le_of_ble_eq_true rfl) (Nat.le_of_ble_eq_true rfl) ⟨1, rfl, rfl, (Nat.le_of_ble_eq_true rfl), (Nat.le_of_ble_eq_true rfl), (gB_w (gBl (show Int32.toInt 1 = 1 by decide)) (by decide) (by decide))⟩
      · change G _ _ _ _ _ _ _ (.int 1 :: _) _ _ _
        refine G_widen (cs' := 0) (sl' := 0) (by omega) (by omega) ?_
        refine G_if_eq 31 dr_cX14_is_24 (by decide +kernel) (fun hc => absurd hc (by decide)) (fun _ => ?_)
        refine G_iconst 1 dr_cX14_is_27 (by decide +kernel) ?_
        refine G_goto 32 dr_cX14_is_28 (by decide +kernel) ?_
        exact G_zretA FieldType.boolean dr_cX14_is_32 rfl rfl (Nat.le_of_ble_eq_true rfl) (Nat.le_of_ble_eq_true rfl) ⟨1, rfl, rfl, (Nat.le_of_ble_eq_true rfl), (Nat.le_of_ble_eq_true rfl), (gB_w (gBl (show Int32.toInt 1 = 1 by decide)) (by decide) (by decide))⟩
abbrev ky_655706_Reader_want : gKey := (cX14_want, 2, "SpillForgeModel$Reader", none, [], "want", fun _ _ => True)
def pp_655706_Reader_want (D : va_G) (I : FieldType → ClassId) (P655681 : List Nat) (F655682 : Nat → va_E) (q655683 : Nat) (q655684 : Nat) (qs655685 : Nat) (qb655686 : Nat) (bs655687 : List Int32) (p655688 : Int32) (p655689 : Int32) (p655690 : Int32) (p655691 : Int32) (p655692 : Int32) (p655693 : Int32) (qo655694 : Nat) (p655695 : Int32) (p655696 : Int32) (p655697 : Int32) (qo655698 : Nat) (qo655699 : Nat) (p655700 : Int32) (f655701 : Nat → Int32) : Option Value → va_W → Nat → Nat → Prop := fun r w dc ds => ∃ (P655767 : List Nat) (F655768 : Nat → va_E) (o655762 : Int32) (o655763 : Int32) (o655764 : Int32) (o655765 : Int32) (q655766 : Nat), r = none ∧ w = va_pl P655767 F655768 ∧ rSub P655681 P655767 ∧ rFr [q655683] P655681 F655682 F655768 ∧ F655768 q655683 = .inr (19, [.ref q655684, .int p655688, .int o655762, .int o655763, .int o655764, .int o655765, .int p655690, .ref q655766, .int p655695, .int p655696, .int p655697, .ref qo655698, .ref qo655699, .int p655700]) ∧ F655768 q655684 = .inl (I .byte, 8192, .inl f655701) ∧ dc ≤ (16 * (o655762.toInt - p655689.toInt)).toNat ∧ ds ≤ (256 * (o655762.toInt - p655689.toInt)).toNat ∧ gB o655762 0 8192 ∧ gB o655763 0 6 ∧ gB o655764 0 8192 ∧ p655689.toInt ≤ o655762.toInt ∧ prP o655763 p655689 o655762 ∧ o655762.toInt ≤ p655688.toInt ∧ tP I P655767 F655768 o655763 q655766 qo655699 qo655698 ∧ vP o655763 o655765
def xp_655706_Reader_want (D : va_G) (I : FieldType → ClassId) (P655681 : List Nat) (F655682 : Nat → va_E) (q655683 : Nat) (q655684 : Nat) (qs655685 : Nat) (qb655686 : Nat) (bs655687 : List Int32) (p655688 : Int32) (p655689 : Int32) (p655690 : Int32) (p655691 : Int32) (p655692 : Int32) (p655693 : Int32) (qo655694 : Nat) (p655695 : Int32) (p655696 : Int32) (p655697 : Int32) (qo655698 : Nat) (qo655699 : Nat) (p655700 : Int32) (f655701 : Nat → Int32) : String → Nat → va_W → Nat → Nat → Prop := fun E q w dc ds => ∃ (P655770 : List Nat) (F655769 : Nat → va_E), E = "SpillForgeModel$Wrong" ∧ w = va_pl P655770 F655769 ∧ rSub P655681 P655770 ∧ rFr [] P655681 F655682 F655769 ∧ q ∈ P655770 ∧ q ∉ P655681 ∧ wrF F655769 q ∧ dc ≤ (16 * (p655688.toInt - p655689.toInt)).toNat + 1 ∧ ds ≤ (256 * (p655688.toInt - p655689.toInt)).toNat + 7
set_option maxRecDepth 100000 in
set_option maxHeartbeats 4000000 in
theorem cp_655706_Reader_want (l : Launch) (hl0 : l.stackTraces = false) (D : va_G) (I : FieldType → ClassId) (P655681 : List Nat) (F655682 : Nat → va_E) (q655683 : Nat) (q655684 : Nat) (qs655685 : Nat) (qb655686 : Nat) (bs655687 : List Int32) (p655688 : Int32) (p655689 : Int32) (p655690 : Int32) (p655691 : Int32) (p655692 : Int32) (p655693 : Int32) (qo655694 : Nat) (p655695 : Int32) (p655696 : Int32) (p655697 : Int32) (qo655698 : Nat) (qo655699 : Nat) (p655700 : Int32) (f655701 : Nat → Int32) (hmq655683 : q655683 ∈ P655681) (hmq655684 : q655684 ∈ P655681) (heq655683 : F655682 q655683 = .inr (19, [.ref q655684, .int p655688, .int p655689, .int p655690, .int p655691, .int p655692, .int p655693, .ref qo655694, .int p655695, .int p655696, .int p655697, .ref qo655698, .ref qo655699, .int p655700])) (heq655684 : F655682 q655684 = .inl (I .byte, 8192, .inl f655701)) (hbs655687 : ∀ A s H, (gV D I).2.2.2.1 A s H → gSC qs655685 qb655686 bs655687 A s H) (nbs655687 : (bs655687.length : Int) ≤ 65535) (lbs655687 : gLB bs655687) (bp655688 : gB p655688 0 8192) (bp655689 : gB p655689 0 8192) (bp655690 : gB p655690 0 6) (bp655691 : gB p655691 0 8192) (bp655693 : gB p655693 0 6) (bp655695 : gB p655695 (-1) 8192) (bp655696 : gB p655696 0 4) (bp655697 : gB p655697 0 1000000) (bp655700 : gB p655700 0 1000000) (bf655701 : gF f655701 (-128) 127) (x655702 : p655689.toInt ≤ p655688.toInt) (x655703 : qo655699 ∈ P655681) (x655704 : qo655698 ∈ P655681) (x655705 : tP I P655681 F655682 p655690 qo655694 qo655699 qo655698) : CtA (gV D I) l yX14_want cX14_want 2 none 8 177 ((16 * (p655688.toInt - p655689.toInt)).toNat + 1) ((256 * (p655688.toInt - p655689.toInt)).toNat + 7) [.ref q655683, .ref qs655685] (va_pl P655681 F655682) (pp_655706_Reader_want D I P655681 F655682 q655683 q655684 qs655685 qb655686 bs655687 p655688 p655689 p655690 p655691 p655692 p655693 qo655694 p655695 p655696 p655697 qo655698 qo655699 p655700 f655701) (xp_655706_Reader_want D I P655681 F655682 q655683 q655684 qs655685 qb655686 bs655687 p655688 p655689 p655690 p655691 p655692 p655693 qo655694 p655695 p655696 p655697 qo655698 qo655699 p655700 f655701) := by
  refine CtA_of hl0 (by decide) (Nat.le_of_ble_eq_true rfl) ?_
  have bp655692 := gB_any p655692
  refine G_aload_n 0 dr_cX14_want_0 rfl ?_
  refine G_aload_n 1 dr_cX14_want_1 rfl ?_
  refine Gw_callV (As := [.ref qs655685]) (gV_ok D I) (cp_655625_Reader_is l hl0 D I P655681 F655682 q655683 q655684 qs655685 qb655686 bs655687 p655688 p655689 p655690 p655691 p655692 p655693 qo655694 p655695 p655696 p655697 qo655698 qo655699 p655700 f655701 hmq655683 hmq655684 heq655683 heq655684 hbs655687 nbs655687 lbs655687 bp655688 bp655689 bp655690 bp655691 bp655693 bp655695 bp655696 bp655697 bp655700 bf655701 x655705) dr_cX14_want_2 ⟨wr_9_141, wr_1_32, wr_9_144, by decide, rfl, (Nat.le_of_ble_eq_true rfl), (Nat.le_of_ble_eq_true rfl)⟩ wr_9_143 wr_p_84 hmq655683 heq655683 rfl (show 0 + 0 ≤ ((16 * (p655688.toInt - p655689.toInt)).toNat + 1) by first | omega | decide) (show 0 + 0 ≤ ((256 * (p655688.toInt - p655689.toInt)).toNat + 7) by first | omega | decide) (Nat.le_of_ble_eq_true rfl) (fun r655710 w655711 dc655707 ds655708 hp655709 => ?_) (fun _ _ _ _ _ z => z.elim)
  obtain ⟨o655712, rfl, rfl, hdc, hds, bo655712⟩ := hp655709
  change G _ _ _ _ _ _ _ (.int o655712 :: _) _ _ _
  refine G_widen (cs' := 0) (sl' := 0) (by omega) (by omega) ?_
  refine G_if_ne 13 dr_cX14_want_5 (by decide +kernel) (fun hc655713 => ?_) (fun hc655713 => ?_)
  · have r655714 : o655712.toInt ≠ 0 := gj_neq hc655713 (show Int32.toInt 0 = 0 by decide)
    have bo655712' : gB o655712 1 1 := ⟨by omega, by omega⟩
    refine G_aload_n 0 dr_cX14_want_13 rfl ?_
    refine Gw_callV (As := []) (gV_ok D I) (cp_653748_Reader_next l hl0 D I P655681 F655682 q655683 q655684 p655688 p655689 p655690 p655691 p655692 p655693 qo655694 p655695 p655696 p655697 qo655698 qo655699 p655700 f655701 hmq655683 hmq655684 heq655683 heq655684 bp655688 bp655689 bp655690 bp655691 bp655693 bp655695 bp655696 bp655697 bp655700 bf655701 (by omega) x655703 x655704) dr_cX14_want_14 ⟨wr_7_215, wr_1_32, wr_7_218, by decide, rfl, (Nat.le_of_ble_eq_true rfl), (Nat.le_of_ble_eq_true rfl)⟩ wr_7_217 wr_p_75 hmq655683 heq655683 rfl (show 0 + ((16 * (p655688.toInt - p655689.toInt)).toNat) ≤ ((16 * (p655688.toInt - p655689.toInt)).toNat + 1) by first | omega | decide) (show 0 + ((256 * (p655688.toInt - p655689.toInt)).toNat) ≤ ((256 * (p655688.toInt - p655689.toInt)).toNat + 7) by first | omega | decide) (Nat.le_of_ble_eq_true rfl) (fun r655718 w655719 dc655715 ds655716 hp655717 => ?_) (fun _ _ _ _ _ z => z.elim)
    obtain ⟨P655730, F655731, o655720, o655721, o655722, o655723, q655724, rfl, rfl, hsb655732, hfr655733, he655734, he655735, hdc, hds, bo655720, bo655721, bo655722, x655725, x655726, x655727, x655728, x655729⟩ := hp655717
    have hm655736 : q655683 ∈ P655730 := hsb655732 q655683 hmq655683
    have hm655737 : q655684 ∈ P655730 := hsb655732 q655684 hmq655684
    have hsb655738 : rSub P655681 P655730 := rSub_tr (rSub_rf (P := P655681)) hsb655732
    have hfr655739 : rFr [q655683] P655681 F655682 F655731 := rFr_call (rSub_rf (P := P655681)) (rFr_rf (W := []) (P := P655681) (F := F655682)) hfr655733 (fun b hb hn => ⟨nm_n, (nm_c (fun e => hn (e ▸ List.mem_cons_self)) nm_n)⟩)
    have bo655723 := gB_any o655723
    change G _ _ _ _ _ _ _ _ _ _ _
    refine G_widen (cs' := (16 * (o655720.toInt - p655689.toInt)).toNat) (sl' := (256 * (o655720.toInt - p655689.toInt)).toNat) (by omega) (by omega) ?_
    exact G_vretA dr_cX14_want_17 rfl (show (16 * (o655720.toInt - p655689.toInt)).toNat ≤ ((16 * (p655688.toInt - p655689.toInt)).toNat + 1) by omega) (show (256 * (o655720.toInt - p655689.toInt)).toNat ≤ ((256 * (p655688.toInt - p655689.toInt)).toNat + 7) by omega) ⟨P655730, F655731, o655720, o655721, o655722, o655723, q655724, rfl, rfl, hsb655738, hfr655739, he655734, he655735, (by omega), (by omega), bo655720, bo655721, bo655722, (by omega), x655726, (by omega), x655728, x655729⟩
  · have r655740 : o655712.toInt = 0 := gj_eq hc655713 (show Int32.toInt 0 = 0 by decide)
    have bo655712' : gB o655712 0 0 := ⟨by omega, by omega⟩
    refine G_aload_n 0 dr_cX14_want_8 rfl ?_
    refine Gw_callV (As := []) (gV_ok D I) (cp_655379_Reader_no l hl0 D I P655681 F655682 q655683 q655684 p655688 p655689 p655690 p655691 p655692 p655693 qo655694 p655695 p655696 p655697 qo655698 qo655699 p655700 f655701 hmq655683 hmq655684 heq655683 heq655684 bp655688 bp655689 bp655690 bp655691 bp655693 bp655695 bp655696 bp655697 bp655700 bf655701) dr_cX14_want_9 ⟨wr_9_97, wr_1_32, wr_9_100, by decide, rfl, (Nat.le_of_ble_eq_true rfl), (Nat.le_of_ble_eq_true rfl)⟩ wr_9_99 wr_p_81 hmq655683 heq655683 rfl (show 0 + 1 ≤ ((16 * (p655688.toInt - p655689.toInt)).toNat + 1) by first | omega | decide) (show 0 + 7 ≤ ((256 * (p655688.toInt - p655689.toInt)).toNat + 7) by first | omega | decide) (Nat.le_of_ble_eq_true rfl) (fun r655744 w655745 dc655741 ds655742 hp655743 => ?_) (fun _ _ _ _ _ z => z.elim)
    obtain ⟨P655747, F655748, q655746, rfl, rfl, hsb655749, hfr655750, he655751, he655752, he655753, hm655754, hq655755, hdc, hds⟩ := hp655743
    have hm655756 : q655683 ∈ P655747 := hsb655749 q655683 hmq655683
    have hm655757 : q655684 ∈ P655747 := hsb655749 q655684 hmq655684
    have hq655758 : q655746 ∉ P655681 := fun z => hq655755 ((rSub_rf (P := P655681)) q655746 z)
    have hsb655759 : rSub P655681 P655747 := rSub_tr (rSub_rf (P := P655681)) hsb655749
    have hfr655760 : rFr [] P655681 F655682 F655748 := rFr_call (rSub_rf (P := P655681)) (rFr_rf (W := []) (P := P655681) (F := F655682)) hfr655750 (fun b hb hn => ⟨nm_n, nm_n⟩)
    have tp655761 : tP I P655747 F655748 p655690 qo655694 qo655699 qo655698 := tP_new x655705 hsb655749 (fun b hb => hfr655750 b hb (fun z => by cases z)) (Or.inl rfl) (Or.inl rfl)
    change G _ _ _ _ _ _ _ (.ref q655746 :: _) _ _ _
    refine G_widen (cs' := 1) (sl' := 7) (by omega) (by omega) ?_
    exact Gp_athrow hm655754 he655753 rfl dr_cX14_want_12 (GT_outA rfl (show 1 ≤ ((16 * (p655688.toInt - p655689.toInt)).toNat + 1) by omega) (show 7 ≤ ((256 * (p655688.toInt - p655689.toInt)).toNat + 7) by omega) ⟨P655747, F655748, rfl, rfl, hsb655759, hfr655760, hm655754, hq655758, ⟨_, _, _, _, _, _, _, he655753, by omega⟩, (by omega), (by omega)⟩)
abbrev ky_655795_Reader_want : gKey := (cX14_want_, 3, "SpillForgeModel$Reader", (some FieldType.int), [], "want", fun _ _ => True)
def pp_655795_Reader_want (D : va_G) (I : FieldType → ClassId) (P655771 : List Nat) (F655772 : Nat → va_E) (q655773 : Nat) (q655774 : Nat) (p655775 : Int32) (p655776 : Int32) (p655777 : Int32) (p655778 : Int32) (p655779 : Int32) (p655780 : Int32) (p655781 : Int32) (qo655782 : Nat) (p655783 : Int32) (p655784 : Int32) (p655785 : Int32) (qo655786 : Nat) (qo655787 : Nat) (p655788 : Int32) (f655789 : Nat → Int32) : Option Value → va_W → Nat → Nat → Prop := fun r w dc ds => ∃ (P655850 : List Nat) (F655851 : Nat → va_E) (o655845 : Int32) (o655846 : Int32) (o655847 : Int32) (o655848 : Int32) (q655849 : Nat), r = some (.int p655780) ∧ w = va_pl P655850 F655851 ∧ rSub P655771 P655850 ∧ rFr [q655773] P655771 F655772 F655851 ∧ F655851 q655773 = .inr (19, [.ref q655774, .int p655776, .int o655845, .int o655846, .int o655847, .int o655848, .int p655778, .ref q655849, .int p655783, .int p655784, .int p655785, .ref qo655786, .ref qo655787, .int p655788]) ∧ F655851 q655774 = .inl (I .byte, 8192, .inl f655789) ∧ dc ≤ (16 * (o655845.toInt - p655777.toInt)).toNat ∧ ds ≤ (256 * (o655845.toInt - p655777.toInt)).toNat ∧ gB o655845 0 8192 ∧ gB o655846 0 6 ∧ gB o655847 0 8192 ∧ p655777.toInt ≤ o655845.toInt ∧ prP o655846 p655777 o655845 ∧ o655845.toInt ≤ p655776.toInt ∧ tP I P655850 F655851 o655846 q655849 qo655787 qo655786 ∧ vP o655846 o655848 ∧ vP p655775 p655780 ∧ p655778.toInt = p655775.toInt
def xp_655795_Reader_want (D : va_G) (I : FieldType → ClassId) (P655771 : List Nat) (F655772 : Nat → va_E) (q655773 : Nat) (q655774 : Nat) (p655775 : Int32) (p655776 : Int32) (p655777 : Int32) (p655778 : Int32) (p655779 : Int32) (p655780 : Int32) (p655781 : Int32) (qo655782 : Nat) (p655783 : Int32) (p655784 : Int32) (p655785 : Int32) (qo655786 : Nat) (qo655787 : Nat) (p655788 : Int32) (f655789 : Nat → Int32) : String → Nat → va_W → Nat → Nat → Prop := fun E q w dc ds => ∃ (P655853 : List Nat) (F655852 : Nat → va_E), E = "SpillForgeModel$Wrong" ∧ w = va_pl P655853 F655852 ∧ rSub P655771 P655853 ∧ rFr [] P655771 F655772 F655852 ∧ q ∈ P655853 ∧ q ∉ P655771 ∧ wrF F655852 q ∧ dc ≤ (16 * (p655776.toInt - p655777.toInt)).toNat + 1 ∧ ds ≤ (256 * (p655776.toInt - p655777.toInt)).toNat + 7
set_option maxRecDepth 100000 in
set_option maxHeartbeats 4000000 in
theorem cp_655795_Reader_want (l : Launch) (hl0 : l.stackTraces = false) (D : va_G) (I : FieldType → ClassId) (P655771 : List Nat) (F655772 : Nat → va_E) (q655773 : Nat) (q655774 : Nat) (p655775 : Int32) (p655776 : Int32) (p655777 : Int32) (p655778 : Int32) (p655779 : Int32) (p655780 : Int32) (p655781 : Int32) (qo655782 : Nat) (p655783 : Int32) (p655784 : Int32) (p655785 : Int32) (qo655786 : Nat) (qo655787 : Nat) (p655788 : Int32) (f655789 : Nat → Int32) (hmq655773 : q655773 ∈ P655771) (hmq655774 : q655774 ∈ P655771) (heq655773 : F655772 q655773 = .inr (19, [.ref q655774, .int p655776, .int p655777, .int p655778, .int p655779, .int p655780, .int p655781, .ref qo655782, .int p655783, .int p655784, .int p655785, .ref qo655786, .ref qo655787, .int p655788])) (heq655774 : F655772 q655774 = .inl (I .byte, 8192, .inl f655789)) (bp655775 : gB p655775 0 6) (bp655776 : gB p655776 0 8192) (bp655777 : gB p655777 0 8192) (bp655778 : gB p655778 0 6) (bp655779 : gB p655779 0 8192) (bp655781 : gB p655781 0 6) (bp655783 : gB p655783 (-1) 8192) (bp655784 : gB p655784 0 4) (bp655785 : gB p655785 0 1000000) (bp655788 : gB p655788 0 1000000) (bf655789 : gF f655789 (-128) 127) (x655790 : p655777.toInt ≤ p655776.toInt) (x655791 : qo655787 ∈ P655771) (x655792 : qo655786 ∈ P655771) (x655793 : tP I P655771 F655772 p655778 qo655782 qo655787 qo655786) (x655794 : vP p655778 p655780) : CtA (gV D I) l yX14_want_ cX14_want_ 3 (some FieldType.int) 8 177 ((16 * (p655776.toInt - p655777.toInt)).toNat + 1) ((256 * (p655776.toInt - p655777.toInt)).toNat + 7) [.ref q655773, .int p655775] (va_pl P655771 F655772) (pp_655795_Reader_want D I P655771 F655772 q655773 q655774 p655775 p655776 p655777 p655778 p655779 p655780 p655781 qo655782 p655783 p655784 p655785 qo655786 qo655787 p655788 f655789) (xp_655795_Reader_want D I P655771 F655772 q655773 q655774 p655775 p655776 p655777 p655778 p655779 p655780 p655781 qo655782 p655783 p655784 p655785 qo655786 qo655787 p655788 f655789) := by
  refine CtA_of hl0 (by decide) (Nat.le_of_ble_eq_true rfl) ?_
  have bp655780 := gB_any p655780
  refine G_aload_n 0 dr_cX14_want__0 rfl ?_
  refine Gp_get 3 hmq655773 heq655773 dr_cX14_want__1 (gk_X14 D I) (Nat.le_of_ble_eq_true rfl) wr_9_39 rfl ?_
  refine G_iload_n 1 dr_cX14_want__4 rfl ?_
  refine G_icmp_eq 13 dr_cX14_want__5 (by decide +kernel) (fun hc655796 => ?_) (fun hc655796 => ?_)
  · have r655797 : p655778.toInt = p655775.toInt := gC_eq hc655796
    refine G_aload_n 0 dr_cX14_want__13 rfl ?_
    refine Gp_get 5 hmq655773 heq655773 dr_cX14_want__14 (gk_X14 D I) (Nat.le_of_ble_eq_true rfl) wr_9_41 rfl ?_
    refine G_istore_n (L' := [(2, .int p655780), (0, .ref q655773), (1, .int p655775)]) dr_cX14_want__17 (Nat.le_of_ble_eq_true rfl) rfl ?_
    refine G_aload_n 1 dr_cX14_want__18 rfl ?_
    refine Gw_callV (As := []) (gV_ok D I) (cp_653748_Reader_next l hl0 D I P655771 F655772 q655773 q655774 p655776 p655777 p655778 p655779 p655780 p655781 qo655782 p655783 p655784 p655785 qo655786 qo655787 p655788 f655789 hmq655773 hmq655774 heq655773 heq655774 bp655776 bp655777 bp655778 bp655779 bp655781 bp655783 bp655784 bp655785 bp655788 bf655789 (by omega) x655791 x655792) dr_cX14_want__19 ⟨wr_7_215, wr_1_32, wr_7_218, by decide, rfl, (Nat.le_of_ble_eq_true rfl), (Nat.le_of_ble_eq_true rfl)⟩ wr_7_217 wr_p_75 hmq655773 heq655773 rfl (show 0 + ((16 * (p655776.toInt - p655777.toInt)).toNat) ≤ ((16 * (p655776.toInt - p655777.toInt)).toNat + 1) by first | omega | decide) (show 0 + ((256 * (p655776.toInt - p655777.toInt)).toNat) ≤ ((256 * (p655776.toInt - p655777.toInt)).toNat + 7) by first | omega | decide) (Nat.le_of_ble_eq_true rfl) (fun r655801 w655802 dc655798 ds655799 hp655800 => ?_) (fun _ _ _ _ _ z => z.elim)
    obtain ⟨P655813, F655814, o655803, o655804, o655805, o655806, q655807, rfl, rfl, hsb655815, hfr655816, he655817, he655818, hdc, hds, bo655803, bo655804, bo655805, x655808, x655809, x655810, x655811, x655812⟩ := hp655800
    have hm655819 : q655773 ∈ P655813 := hsb655815 q655773 hmq655773
    have hm655820 : q655774 ∈ P655813 := hsb655815 q655774 hmq655774
    have hsb655821 : rSub P655771 P655813 := rSub_tr (rSub_rf (P := P655771)) hsb655815
    have hfr655822 : rFr [q655773] P655771 F655772 F655814 := rFr_call (rSub_rf (P := P655771)) (rFr_rf (W := []) (P := P655771) (F := F655772)) hfr655816 (fun b hb hn => ⟨nm_n, (nm_c (fun e => hn (e ▸ List.mem_cons_self)) nm_n)⟩)
    have bo655806 := gB_any o655806
    change G _ _ _ _ _ _ _ _ _ _ _
    refine G_widen (cs' := (16 * (o655803.toInt - p655777.toInt)).toNat) (sl' := (256 * (o655803.toInt - p655777.toInt)).toNat) (by omega) (by omega) ?_
    refine G_iload_n 0 dr_cX14_want__22 rfl ?_
    exact G_iretA dr_cX14_want__23 rfl (show (16 * (o655803.toInt - p655777.toInt)).toNat ≤ ((16 * (p655776.toInt - p655777.toInt)).toNat + 1) by omega) (show (256 * (o655803.toInt - p655777.toInt)).toNat ≤ ((256 * (p655776.toInt - p655777.toInt)).toNat + 7) by omega) ⟨P655813, F655814, o655803, o655804, o655805, o655806, q655807, rfl, rfl, hsb655821, hfr655822, he655817, he655818, (by omega), (by omega), bo655803, bo655804, bo655805, (by omega), x655809, (by omega), x655811, x655812, (vP_eq x655794 (by omega)), (by omega)⟩
  · have r655823 : p655778.toInt ≠ p655775.toInt := gC_ne hc655796
    refine G_aload_n 0 dr_cX14_want__8 rfl ?_
    refine Gw_callV (As := []) (gV_ok D I) (cp_655379_Reader_no l hl0 D I P655771 F655772 q655773 q655774 p655776 p655777 p655778 p655779 p655780 p655781 qo655782 p655783 p655784 p655785 qo655786 qo655787 p655788 f655789 hmq655773 hmq655774 heq655773 heq655774 bp655776 bp655777 bp655778 bp655779 bp655781 bp655783 bp655784 bp655785 bp655788 bf655789) dr_cX14_want__9 ⟨wr_9_97, wr_1_32, wr_9_100, by decide, rfl, (Nat.le_of_ble_eq_true rfl), (Nat.le_of_ble_eq_true rfl)⟩ wr_9_99 wr_p_81 hmq655773 heq655773 rfl (show 0 + 1 ≤ ((16 * (p655776.toInt - p655777.toInt)).toNat + 1) by first | omega | decide) (show 0 + 7 ≤ ((256 * (p655776.toInt - p655777.toInt)).toNat + 7) by first | omega | decide) (Nat.le_of_ble_eq_true rfl) (fun r655827 w655828 dc655824 ds655825 hp655826 => ?_) (fun _ _ _ _ _ z => z.elim)
    obtain ⟨P655830, F655831, q655829, rfl, rfl, hsb655832, hfr655833, he655834, he655835, he655836, hm655837, hq655838, hdc, hds⟩ := hp655826
    have hm655839 : q655773 ∈ P655830 := hsb655832 q655773 hmq655773
    have hm655840 : q655774 ∈ P655830 := hsb655832 q655774 hmq655774
    have hq655841 : q655829 ∉ P655771 := fun z => hq655838 ((rSub_rf (P := P655771)) q655829 z)
    have hsb655842 : rSub P655771 P655830 := rSub_tr (rSub_rf (P := P655771)) hsb655832
    have hfr655843 : rFr [] P655771 F655772 F655831 := rFr_call (rSub_rf (P := P655771)) (rFr_rf (W := []) (P := P655771) (F := F655772)) hfr655833 (fun b hb hn => ⟨nm_n, nm_n⟩)
    have tp655844 : tP I P655830 F655831 p655778 qo655782 qo655787 qo655786 := tP_new x655793 hsb655832 (fun b hb => hfr655833 b hb (fun z => by cases z)) (Or.inl rfl) (Or.inl rfl)
    change G _ _ _ _ _ _ _ (.ref q655829 :: _) _ _ _
    refine G_widen (cs' := 1) (sl' := 7) (by omega) (by omega) ?_
    exact Gp_athrow hm655837 he655836 rfl dr_cX14_want__12 (GT_outA rfl (show 1 ≤ ((16 * (p655776.toInt - p655777.toInt)).toNat + 1) by omega) (show 7 ≤ ((256 * (p655776.toInt - p655777.toInt)).toNat + 7) by omega) ⟨P655830, F655831, rfl, rfl, hsb655842, hfr655843, hm655837, hq655841, ⟨_, _, _, _, _, _, _, he655836, by omega⟩, (by omega), (by omega)⟩)
