theorem dr_cE_Throwable_init4_0 : decode cE_Throwable_init4 0 = .ok (.aload_n 0, 1) := by decide +kernel
theorem dr_cE_Throwable_init4_1 : decode cE_Throwable_init4 1 = .ok (.invokespecial 1, 3) := by decide +kernel
theorem wr_4_220 : (Jvm.Cond.methodLink "java/lang/Throwable" (1 : Nat) ({ cls := "java/lang/Object", name := "<init>", desc := "()V" } : Jvm.MethodName)) ∈ gw := gw_4 220 rfl rfl
theorem dr_cE_Throwable_init4_4 : decode cE_Throwable_init4 4 = .ok (.aload_n 0, 1) := by decide +kernel
theorem dr_cE_Throwable_init4_5 : decode cE_Throwable_init4 5 = .ok (.aload_n 0, 1) := by decide +kernel
theorem dr_cE_Throwable_init4_6 : decode cE_Throwable_init4 6 = .ok (.putfield 7, 3) := by decide +kernel
theorem wr_5_15 : (Jvm.Cond.fieldLink "java/lang/Throwable" (7 : Nat) "java/lang/Throwable" "cause" "Ljava/lang/Throwable;") ∈ gw := gw_5 15 rfl rfl
theorem dr_cE_Throwable_init4_9 : decode cE_Throwable_init4 9 = .ok (.aload_n 0, 1) := by decide +kernel
theorem dr_cE_Throwable_init4_10 : decode cE_Throwable_init4 10 = .ok (.getstatic 13, 3) := by decide +kernel
theorem wr_4_221 : (Jvm.Cond.fieldLink "java/lang/Throwable" (13 : Nat) "java/lang/Throwable" "UNASSIGNED_STACK" "[Ljava/lang/StackTraceElement;") ∈ gw := gw_4 221 rfl rfl
theorem dr_cE_Throwable_init4_13 : decode cE_Throwable_init4 13 = .ok (.putfield 17, 3) := by decide +kernel
theorem wr_5_16 : (Jvm.Cond.fieldLink "java/lang/Throwable" (17 : Nat) "java/lang/Throwable" "stackTrace" "[Ljava/lang/StackTraceElement;") ∈ gw := gw_5 16 rfl rfl
theorem dr_cE_Throwable_init4_16 : decode cE_Throwable_init4 16 = .ok (.aload_n 0, 1) := by decide +kernel
theorem dr_cE_Throwable_init4_17 : decode cE_Throwable_init4 17 = .ok (.getstatic 20, 3) := by decide +kernel
theorem wr_4_223 : (Jvm.Cond.fieldLink "java/lang/Throwable" (20 : Nat) "java/lang/Throwable" "SUPPRESSED_SENTINEL" "Ljava/util/List;") ∈ gw := gw_4 223 rfl rfl
theorem dr_cE_Throwable_init4_20 : decode cE_Throwable_init4 20 = .ok (.putfield 24, 3) := by decide +kernel
theorem wr_5_17 : (Jvm.Cond.fieldLink "java/lang/Throwable" (24 : Nat) "java/lang/Throwable" "suppressedExceptions" "Ljava/util/List;") ∈ gw := gw_5 17 rfl rfl
theorem dr_cE_Throwable_init4_23 : decode cE_Throwable_init4 23 = .ok (.iload 4, 2) := by decide +kernel
theorem dr_cE_Throwable_init4_25 : decode cE_Throwable_init4 25 = .ok (.ifCond .eq 11, 3) := by decide +kernel
theorem dr_cE_Throwable_init4_36 : decode cE_Throwable_init4 36 = .ok (.aload_n 0, 1) := by decide +kernel
theorem dr_cE_Throwable_init4_37 : decode cE_Throwable_init4 37 = .ok (.aconst_null, 1) := by decide +kernel
theorem dr_cE_Throwable_init4_38 : decode cE_Throwable_init4 38 = .ok (.putfield 17, 3) := by decide +kernel
theorem dr_cE_Throwable_init4_41 : decode cE_Throwable_init4 41 = .ok (.aload_n 0, 1) := by decide +kernel
theorem dr_cE_Throwable_init4_42 : decode cE_Throwable_init4 42 = .ok (.aload_n 1, 1) := by decide +kernel
theorem dr_cE_Throwable_init4_43 : decode cE_Throwable_init4 43 = .ok (.putfield 31, 3) := by decide +kernel
theorem wr_5_14 : (Jvm.Cond.fieldLink "java/lang/Throwable" (31 : Nat) "java/lang/Throwable" "detailMessage" "Ljava/lang/String;") ∈ gw := gw_5 14 rfl rfl
theorem dr_cE_Throwable_init4_46 : decode cE_Throwable_init4 46 = .ok (.aload_n 0, 1) := by decide +kernel
theorem dr_cE_Throwable_init4_47 : decode cE_Throwable_init4 47 = .ok (.aload_n 2, 1) := by decide +kernel
theorem dr_cE_Throwable_init4_48 : decode cE_Throwable_init4 48 = .ok (.putfield 7, 3) := by decide +kernel
theorem dr_cE_Throwable_init4_51 : decode cE_Throwable_init4 51 = .ok (.iload_n 3, 1) := by decide +kernel
theorem dr_cE_Throwable_init4_52 : decode cE_Throwable_init4 52 = .ok (.ifCond .ne 8, 3) := by decide +kernel
theorem dr_cE_Throwable_init4_55 : decode cE_Throwable_init4 55 = .ok (.aload_n 0, 1) := by decide +kernel
theorem dr_cE_Throwable_init4_56 : decode cE_Throwable_init4 56 = .ok (.aconst_null, 1) := by decide +kernel
theorem dr_cE_Throwable_init4_57 : decode cE_Throwable_init4 57 = .ok (.putfield 24, 3) := by decide +kernel
theorem dr_cE_Throwable_init4_60 : decode cE_Throwable_init4 60 = .ok (.return_, 1) := by decide +kernel
theorem dr_cE_Exception_init4_0 : decode cE_Exception_init4 0 = .ok (.aload_n 0, 1) := by decide +kernel
theorem dr_cE_Exception_init4_1 : decode cE_Exception_init4 1 = .ok (.aload_n 1, 1) := by decide +kernel
theorem dr_cE_Exception_init4_2 : decode cE_Exception_init4 2 = .ok (.aload_n 2, 1) := by decide +kernel
theorem dr_cE_Exception_init4_3 : decode cE_Exception_init4 3 = .ok (.iload_n 3, 1) := by decide +kernel
theorem dr_cE_Exception_init4_4 : decode cE_Exception_init4 4 = .ok (.iload 4, 2) := by decide +kernel
theorem dr_cE_Exception_init4_6 : decode cE_Exception_init4 6 = .ok (.invokespecial 16, 3) := by decide +kernel
theorem wr_9_119 : (Jvm.Cond.methodLink "java/lang/Exception" (16 : Nat) ({ cls := "java/lang/Throwable", name := "<init>", desc := "(Ljava/lang/String;Ljava/lang/Throwable;ZZ)V" } : Jvm.MethodName)) ∈ gw := gw_9 119 rfl rfl
theorem wr_1_23 : (Jvm.Cond.initialized "java/lang/Throwable") ∈ gw := gw_1 23 rfl rfl
theorem wr_9_121 : (Jvm.Cond.code ({ cls := "java/lang/Throwable", name := "<init>", desc := "(Ljava/lang/String;Ljava/lang/Throwable;ZZ)V" } : Jvm.MethodName) prog_40_method_5_code (5 : Nat) (Option.none : Option Jvm.ClassFile.FieldType)) ∈ gw := gw_9 121 rfl rfl
theorem wr_9_120 : (Jvm.Cond.instanceMethod ({ cls := "java/lang/Throwable", name := "<init>", desc := "(Ljava/lang/String;Ljava/lang/Throwable;ZZ)V" } : Jvm.MethodName)) ∈ gw := gw_9 120 rfl rfl
theorem dr_cE_Exception_init4_9 : decode cE_Exception_init4 9 = .ok (.return_, 1) := by decide +kernel
theorem dr_cE_RuntimeException_init4_0 : decode cE_RuntimeException_init4 0 = .ok (.aload_n 0, 1) := by decide +kernel
theorem dr_cE_RuntimeException_init4_1 : decode cE_RuntimeException_init4 1 = .ok (.aload_n 1, 1) := by decide +kernel
theorem dr_cE_RuntimeException_init4_2 : decode cE_RuntimeException_init4 2 = .ok (.aload_n 2, 1) := by decide +kernel
theorem dr_cE_RuntimeException_init4_3 : decode cE_RuntimeException_init4 3 = .ok (.iload_n 3, 1) := by decide +kernel
theorem dr_cE_RuntimeException_init4_4 : decode cE_RuntimeException_init4 4 = .ok (.iload 4, 2) := by decide +kernel
theorem dr_cE_RuntimeException_init4_6 : decode cE_RuntimeException_init4 6 = .ok (.invokespecial 16, 3) := by decide +kernel
theorem wr_9_116 : (Jvm.Cond.methodLink "java/lang/RuntimeException" (16 : Nat) ({ cls := "java/lang/Exception", name := "<init>", desc := "(Ljava/lang/String;Ljava/lang/Throwable;ZZ)V" } : Jvm.MethodName)) ∈ gw := gw_9 116 rfl rfl
theorem wr_1_24 : (Jvm.Cond.initialized "java/lang/Exception") ∈ gw := gw_1 24 rfl rfl
theorem wr_9_118 : (Jvm.Cond.code ({ cls := "java/lang/Exception", name := "<init>", desc := "(Ljava/lang/String;Ljava/lang/Throwable;ZZ)V" } : Jvm.MethodName) prog_25_method_5_code (5 : Nat) (Option.none : Option Jvm.ClassFile.FieldType)) ∈ gw := gw_9 118 rfl rfl
theorem wr_9_117 : (Jvm.Cond.instanceMethod ({ cls := "java/lang/Exception", name := "<init>", desc := "(Ljava/lang/String;Ljava/lang/Throwable;ZZ)V" } : Jvm.MethodName)) ∈ gw := gw_9 117 rfl rfl
theorem dr_cE_RuntimeException_init4_9 : decode cE_RuntimeException_init4 9 = .ok (.return_, 1) := by decide +kernel
theorem dr_cX16_init_0 : decode cX16_init 0 = .ok (.aload_n 0, 1) := by decide +kernel
theorem dr_cX16_init_1 : decode cX16_init 1 = .ok (.aconst_null, 1) := by decide +kernel
theorem dr_cX16_init_2 : decode cX16_init 2 = .ok (.aconst_null, 1) := by decide +kernel
theorem dr_cX16_init_3 : decode cX16_init 3 = .ok (.iconst 0, 1) := by decide +kernel
theorem dr_cX16_init_4 : decode cX16_init 4 = .ok (.iconst 0, 1) := by decide +kernel
theorem dr_cX16_init_5 : decode cX16_init 5 = .ok (.invokespecial 1, 3) := by decide +kernel
theorem wr_9_113 : (Jvm.Cond.methodLink "SpillForgeModel$Wrong" (1 : Nat) ({ cls := "java/lang/RuntimeException", name := "<init>", desc := "(Ljava/lang/String;Ljava/lang/Throwable;ZZ)V" } : Jvm.MethodName)) ∈ gw := gw_9 113 rfl rfl
theorem wr_1_25 : (Jvm.Cond.initialized "java/lang/RuntimeException") ∈ gw := gw_1 25 rfl rfl
theorem wr_9_115 : (Jvm.Cond.code ({ cls := "java/lang/RuntimeException", name := "<init>", desc := "(Ljava/lang/String;Ljava/lang/Throwable;ZZ)V" } : Jvm.MethodName) prog_33_method_5_code (5 : Nat) (Option.none : Option Jvm.ClassFile.FieldType)) ∈ gw := gw_9 115 rfl rfl
theorem wr_9_114 : (Jvm.Cond.instanceMethod ({ cls := "java/lang/RuntimeException", name := "<init>", desc := "(Ljava/lang/String;Ljava/lang/Throwable;ZZ)V" } : Jvm.MethodName)) ∈ gw := gw_9 114 rfl rfl
theorem dr_cX16_init_8 : decode cX16_init 8 = .ok (.aload_n 0, 1) := by decide +kernel
theorem dr_cX16_init_9 : decode cX16_init 9 = .ok (.iload_n 1, 1) := by decide +kernel
theorem dr_cX16_init_10 : decode cX16_init 10 = .ok (.putfield 7, 3) := by decide +kernel
theorem wr_9_122 : (Jvm.Cond.fieldLink "SpillForgeModel$Wrong" (7 : Nat) "SpillForgeModel$Wrong" "place" "I") ∈ gw := gw_9 122 rfl rfl
theorem dr_cX16_init_13 : decode cX16_init 13 = .ok (.return_, 1) := by decide +kernel
theorem dr_cX14_no_0 : decode cX14_no 0 = .ok (.new 124, 3) := by decide +kernel
theorem wr_9_101 : (Jvm.Cond.classLink "SpillForgeModel$Reader" (124 : Nat) "SpillForgeModel$Wrong") ∈ gw := gw_9 101 rfl rfl
theorem wr_9_102 : (Jvm.Cond.instantiable "SpillForgeModel$Wrong" (7 : Nat)) ∈ gw := gw_9 102 rfl rfl
theorem wr_1_37 : (Jvm.Cond.initialized "SpillForgeModel$Wrong") ∈ gw := gw_1 37 rfl rfl
theorem dr_cX14_no_3 : decode cX14_no 3 = .ok (.dup, 1) := by decide +kernel
theorem dr_cX14_no_4 : decode cX14_no 4 = .ok (.aload_n 0, 1) := by decide +kernel
theorem dr_cX14_no_5 : decode cX14_no 5 = .ok (.getfield 47, 3) := by decide +kernel
theorem dr_cX14_no_8 : decode cX14_no 8 = .ok (.invokespecial 126, 3) := by decide +kernel
theorem wr_9_110 : (Jvm.Cond.methodLink "SpillForgeModel$Reader" (126 : Nat) ({ cls := "SpillForgeModel$Wrong", name := "<init>", desc := "(I)V" } : Jvm.MethodName)) ∈ gw := gw_9 110 rfl rfl
theorem wr_9_112 : (Jvm.Cond.code ({ cls := "SpillForgeModel$Wrong", name := "<init>", desc := "(I)V" } : Jvm.MethodName) prog_19_method_1_code (2 : Nat) (Option.none : Option Jvm.ClassFile.FieldType)) ∈ gw := gw_9 112 rfl rfl
theorem wr_9_111 : (Jvm.Cond.instanceMethod ({ cls := "SpillForgeModel$Wrong", name := "<init>", desc := "(I)V" } : Jvm.MethodName)) ∈ gw := gw_9 111 rfl rfl
theorem dr_cX14_no_11 : decode cX14_no 11 = .ok (.areturn, 1) := by decide +kernel
theorem dr_cX14_is_0 : decode cX14_is 0 = .ok (.aload_n 0, 1) := by decide +kernel
theorem dr_cX14_is_1 : decode cX14_is 1 = .ok (.getfield 38, 3) := by decide +kernel
theorem dr_cX14_is_4 : decode cX14_is 4 = .ok (.iconst 5, 1) := by decide +kernel
theorem dr_cX14_is_5 : decode cX14_is 5 = .ok (.if_icmp .eq 11, 3) := by decide +kernel
theorem dr_cX14_is_16 : decode cX14_is 16 = .ok (.aload_n 0, 1) := by decide +kernel
theorem dr_cX14_is_17 : decode cX14_is 17 = .ok (.getfield 11, 3) := by decide +kernel
theorem dr_cX14_is_20 : decode cX14_is 20 = .ok (.aload_n 1, 1) := by decide +kernel
theorem dr_cX14_is_21 : decode cX14_is 21 = .ok (.invokevirtual 128, 3) := by decide +kernel
theorem wr_9_145 : (Jvm.Cond.methodLink "SpillForgeModel$Reader" (128 : Nat) ({ cls := "java/lang/String", name := "equals", desc := "(Ljava/lang/Object;)Z" } : Jvm.MethodName)) ∈ gw := gw_9 145 rfl rfl
theorem wr_9_148 : (Jvm.Cond.code ({ cls := "java/lang/String", name := "equals", desc := "(Ljava/lang/Object;)Z" } : Jvm.MethodName) prog_34_method_66_code (3 : Nat) (Option.some Jvm.ClassFile.FieldType.boolean)) ∈ gw := gw_9 148 rfl rfl
theorem wr_9_146 : (Jvm.Cond.instanceMethod ({ cls := "java/lang/String", name := "equals", desc := "(Ljava/lang/Object;)Z" } : Jvm.MethodName)) ∈ gw := gw_9 146 rfl rfl
theorem wr_9_147 : (Jvm.Cond.selects "java/lang/String" ({ cls := "java/lang/String", name := "equals", desc := "(Ljava/lang/Object;)Z" } : Jvm.MethodName) ({ cls := "java/lang/String", name := "equals", desc := "(Ljava/lang/Object;)Z" } : Jvm.MethodName)) ∈ gw := gw_9 147 rfl rfl
theorem dr_cX14_is_24 : decode cX14_is 24 = .ok (.ifCond .eq 7, 3) := by decide +kernel
theorem dr_cX14_is_31 : decode cX14_is 31 = .ok (.iconst 0, 1) := by decide +kernel
theorem dr_cX14_is_32 : decode cX14_is 32 = .ok (.ireturn, 1) := by decide +kernel
theorem dr_cX14_is_27 : decode cX14_is 27 = .ok (.iconst 1, 1) := by decide +kernel
theorem dr_cX14_is_28 : decode cX14_is 28 = .ok (.goto 4, 3) := by decide +kernel
theorem dr_cX14_is_8 : decode cX14_is 8 = .ok (.aload_n 0, 1) := by decide +kernel
theorem dr_cX14_is_9 : decode cX14_is 9 = .ok (.getfield 38, 3) := by decide +kernel
theorem dr_cX14_is_12 : decode cX14_is 12 = .ok (.iconst 1, 1) := by decide +kernel
theorem dr_cX14_is_13 : decode cX14_is 13 = .ok (.if_icmp .ne 18, 3) := by decide +kernel
theorem dr_cX14_want_0 : decode cX14_want 0 = .ok (.aload_n 0, 1) := by decide +kernel
theorem dr_cX14_want_1 : decode cX14_want 1 = .ok (.aload_n 1, 1) := by decide +kernel
theorem dr_cX14_want_2 : decode cX14_want 2 = .ok (.invokevirtual 132, 3) := by decide +kernel
theorem wr_9_141 : (Jvm.Cond.methodLink "SpillForgeModel$Reader" (132 : Nat) ({ cls := "SpillForgeModel$Reader", name := "is", desc := "(Ljava/lang/String;)Z" } : Jvm.MethodName)) ∈ gw := gw_9 141 rfl rfl
theorem wr_9_144 : (Jvm.Cond.code ({ cls := "SpillForgeModel$Reader", name := "is", desc := "(Ljava/lang/String;)Z" } : Jvm.MethodName) prog_17_method_9_code (2 : Nat) (Option.some Jvm.ClassFile.FieldType.boolean)) ∈ gw := gw_9 144 rfl rfl
theorem wr_9_143 : (Jvm.Cond.instanceMethod ({ cls := "SpillForgeModel$Reader", name := "is", desc := "(Ljava/lang/String;)Z" } : Jvm.MethodName)) ∈ gw := gw_9 143 rfl rfl
theorem wr_p_84 : Cond.selects "SpillForgeModel$Reader" ⟨"SpillForgeModel$Reader", "is", "(Ljava/lang/String;)Z"⟩ ⟨"SpillForgeModel$Reader", "is", "(Ljava/lang/String;)Z"⟩ ∈ gw := gw_p _ 84 rfl rfl rfl
theorem dr_cX14_want_5 : decode cX14_want 5 = .ok (.ifCond .ne 8, 3) := by decide +kernel
theorem dr_cX14_want_13 : decode cX14_want 13 = .ok (.aload_n 0, 1) := by decide +kernel
theorem dr_cX14_want_14 : decode cX14_want 14 = .ok (.invokevirtual 35, 3) := by decide +kernel
theorem wr_7_215 : (Jvm.Cond.methodLink "SpillForgeModel$Reader" (35 : Nat) ({ cls := "SpillForgeModel$Reader", name := "next", desc := "()V" } : Jvm.MethodName)) ∈ gw := gw_7 215 rfl rfl
theorem wr_7_218 : (Jvm.Cond.code ({ cls := "SpillForgeModel$Reader", name := "next", desc := "()V" } : Jvm.MethodName) prog_17_method_4_code (3 : Nat) (Option.none : Option Jvm.ClassFile.FieldType)) ∈ gw := gw_7 218 rfl rfl
theorem wr_7_217 : (Jvm.Cond.instanceMethod ({ cls := "SpillForgeModel$Reader", name := "next", desc := "()V" } : Jvm.MethodName)) ∈ gw := gw_7 217 rfl rfl
theorem wr_p_75 : Cond.selects "SpillForgeModel$Reader" ⟨"SpillForgeModel$Reader", "next", "()V"⟩ ⟨"SpillForgeModel$Reader", "next", "()V"⟩ ∈ gw := gw_p _ 75 rfl rfl rfl
theorem dr_cX14_want_17 : decode cX14_want 17 = .ok (.return_, 1) := by decide +kernel
theorem dr_cX14_want_8 : decode cX14_want 8 = .ok (.aload_n 0, 1) := by decide +kernel
theorem dr_cX14_want_9 : decode cX14_want 9 = .ok (.invokevirtual 136, 3) := by decide +kernel
theorem wr_9_97 : (Jvm.Cond.methodLink "SpillForgeModel$Reader" (136 : Nat) ({ cls := "SpillForgeModel$Reader", name := "no", desc := "()LSpillForgeModel$Wrong;" } : Jvm.MethodName)) ∈ gw := gw_9 97 rfl rfl
theorem wr_9_100 : (Jvm.Cond.code ({ cls := "SpillForgeModel$Reader", name := "no", desc := "()LSpillForgeModel$Wrong;" } : Jvm.MethodName) prog_17_method_8_code (1 : Nat) (Option.some (Jvm.ClassFile.FieldType.object "SpillForgeModel$Wrong"))) ∈ gw := gw_9 100 rfl rfl
theorem wr_9_99 : (Jvm.Cond.instanceMethod ({ cls := "SpillForgeModel$Reader", name := "no", desc := "()LSpillForgeModel$Wrong;" } : Jvm.MethodName)) ∈ gw := gw_9 99 rfl rfl
theorem wr_p_81 : Cond.selects "SpillForgeModel$Reader" ⟨"SpillForgeModel$Reader", "no", "()LSpillForgeModel$Wrong;"⟩ ⟨"SpillForgeModel$Reader", "no", "()LSpillForgeModel$Wrong;"⟩ ∈ gw := gw_p _ 81 rfl rfl rfl
theorem dr_cX14_want_12 : decode cX14_want 12 = .ok (.athrow, 1) := by decide +kernel
theorem dr_cX14_want__0 : decode cX14_want_ 0 = .ok (.aload_n 0, 1) := by decide +kernel
theorem dr_cX14_want__1 : decode cX14_want_ 1 = .ok (.getfield 38, 3) := by decide +kernel
theorem dr_cX14_want__4 : decode cX14_want_ 4 = .ok (.iload_n 1, 1) := by decide +kernel
theorem dr_cX14_want__5 : decode cX14_want_ 5 = .ok (.if_icmp .eq 8, 3) := by decide +kernel
theorem dr_cX14_want__13 : decode cX14_want_ 13 = .ok (.aload_n 0, 1) := by decide +kernel
theorem dr_cX14_want__14 : decode cX14_want_ 14 = .ok (.getfield 80, 3) := by decide +kernel
theorem dr_cX14_want__17 : decode cX14_want_ 17 = .ok (.istore_n 2, 1) := by decide +kernel
theorem dr_cX14_want__18 : decode cX14_want_ 18 = .ok (.aload_n 0, 1) := by decide +kernel
theorem dr_cX14_want__19 : decode cX14_want_ 19 = .ok (.invokevirtual 35, 3) := by decide +kernel
theorem dr_cX14_want__22 : decode cX14_want_ 22 = .ok (.iload_n 2, 1) := by decide +kernel
theorem dr_cX14_want__23 : decode cX14_want_ 23 = .ok (.ireturn, 1) := by decide +kernel
theorem dr_cX14_want__8 : decode cX14_want_ 8 = .ok (.aload_n 0, 1) := by decide +kernel
theorem dr_cX14_want__9 : decode cX14_want_ 9 = .ok (.invokevirtual 136, 3) := by decide +kernel
theorem dr_cX14_want__12 : decode cX14_want_ 12 = .ok (.athrow, 1) := by decide +kernel
abbrev ky_673380_Throwable_init : gKey := (cE_Throwable_init4, 5, "java/lang/Throwable", none, [], "<init>", fun _ _ => True)
def pp_673380_Throwable_init (D : va_G) (I : FieldType → ClassId) (P673375 : List Nat) (F673376 : Nat → va_E) (q673377 : Nat) (p673378 : Int32) (p673379 : Int32) : Option Value → va_W → Nat → Nat → Prop := fun r w dc ds => ∃ (F673506 : Nat → va_E), r = none ∧ w = va_pl P673375 F673506 ∧ rFr [q673377] P673375 F673376 F673506 ∧ F673506 q673377 = .inr (21, [.null, .null, .null, .null, .null, .int p673378, .int p673379]) ∧ dc ≤ 0 ∧ ds ≤ 0
set_option maxRecDepth 100000 in
set_option maxHeartbeats 4000000 in
theorem cp_673380_Throwable_init (l : Launch) (hl0 : l.stackTraces = false) (D : va_G) (I : FieldType → ClassId) (P673375 : List Nat) (F673376 : Nat → va_E) (q673377 : Nat) (p673378 : Int32) (p673379 : Int32) (hmq673377 : q673377 ∈ P673375) (heq673377 : F673376 q673377 = .inr (21, [.null, .null, .null, .null, .null, .int p673378, .int p673379])) (bp673379 : gB p673379 0 8192) : CtA (gV D I) l yE_Throwable_init4 cE_Throwable_init4 5 none 1 12 0 0 [.ref q673377, .null, .null, .int 0, .int 0] (va_pl P673375 F673376) (pp_673380_Throwable_init D I P673375 F673376 q673377 p673378 p673379) gNA := by
  refine CtA_ofF hl0 (by decide +kernel) (Nat.le_of_ble_eq_true rfl) ?_
  have bp673378 := gB_any p673378
  refine G_aload_n 0 dr_cE_Throwable_init4_0 rfl ?_
  refine G_obj dr_cE_Throwable_init4_1 wr_4_220 wr_1_51 wr_1_52 (Nat.le_of_ble_eq_true rfl) (Nat.le_of_ble_eq_true rfl) ?_
  refine G_aload_n 0 dr_cE_Throwable_init4_4 rfl ?_
  refine G_aload_n 0 dr_cE_Throwable_init4_5 rfl ?_
  refine Gp_put 0 hmq673377 heq673377 dr_cE_Throwable_init4_6 (gk_X16 D I) (Nat.le_of_ble_eq_true rfl) wr_5_15 rfl rfl rfl (Nat.le_of_ble_eq_true rfl) (fun F673381 e673382 n673383 => ?_)
  have he673384 : F673381 q673377 = .inr (21, [.ref q673377, .null, .null, .null, .null, .int p673378, .int p673379]) := e673382
  have hfr673385 : rFr [q673377] P673375 F673376 F673381 := rFr_put (rFr_rf (W := []) (P := P673375) (F := F673376)) n673383
  refine G_aload_n 0 dr_cE_Throwable_init4_9 rfl ?_
  refine G_gets dr_cE_Throwable_init4_10 wr_4_221 gz_us (fun x673388 hx673387 => ?_)
  rcases hx673387 with rfl | ⟨t673386, rfl⟩
  · refine Gp_put 1 hmq673377 he673384 dr_cE_Throwable_init4_13 (gk_X16 D I) (Nat.le_of_ble_eq_true rfl) wr_5_16 rfl rfl rfl (Nat.le_of_ble_eq_true rfl) (fun F673389 e673390 n673391 => ?_)
    have he673392 : F673389 q673377 = .inr (21, [.ref q673377, .null, .null, .null, .null, .int p673378, .int p673379]) := e673390
    have hfr673393 : rFr [q673377] P673375 F673376 F673389 := rFr_put' List.mem_cons_self hfr673385 n673391
    refine G_aload_n 0 dr_cE_Throwable_init4_16 rfl ?_
    refine G_gets dr_cE_Throwable_init4_17 wr_4_223 gz_ss (fun x673396 hx673395 => ?_)
    rcases hx673395 with rfl | ⟨t673394, rfl⟩
    · refine Gp_put 2 hmq673377 he673392 dr_cE_Throwable_init4_20 (gk_X16 D I) (Nat.le_of_ble_eq_true rfl) wr_5_17 rfl rfl rfl (Nat.le_of_ble_eq_true rfl) (fun F673397 e673398 n673399 => ?_)
      have he673400 : F673397 q673377 = .inr (21, [.ref q673377, .null, .null, .null, .null, .int p673378, .int p673379]) := e673398
      have hfr673401 : rFr [q673377] P673375 F673376 F673397 := rFr_put' List.mem_cons_self hfr673393 n673399
      refine G_iload 4 dr_cE_Throwable_init4_23 rfl ?_
      refine G_if_eq 36 dr_cE_Throwable_init4_25 (by decide +kernel) (fun _ => ?_) (fun hc => absurd hc (by decide))
      refine G_aload_n 0 dr_cE_Throwable_init4_36 rfl ?_
      refine G_null dr_cE_Throwable_init4_37 ?_
      refine Gp_put 1 hmq673377 he673400 dr_cE_Throwable_init4_38 (gk_X16 D I) (Nat.le_of_ble_eq_true rfl) wr_5_16 rfl rfl rfl (Nat.le_of_ble_eq_true rfl) (fun F673402 e673403 n673404 => ?_)
      have he673405 : F673402 q673377 = .inr (21, [.ref q673377, .null, .null, .null, .null, .int p673378, .int p673379]) := e673403
      have hfr673406 : rFr [q673377] P673375 F673376 F673402 := rFr_put' List.mem_cons_self hfr673401 n673404
      refine G_aload_n 0 dr_cE_Throwable_init4_41 rfl ?_
      refine G_aload_nN 1 dr_cE_Throwable_init4_42 rfl ?_
      refine Gp_put 3 hmq673377 he673405 dr_cE_Throwable_init4_43 (gk_X16 D I) (Nat.le_of_ble_eq_true rfl) wr_5_14 rfl rfl rfl (Nat.le_of_ble_eq_true rfl) (fun F673407 e673408 n673409 => ?_)
      have he673410 : F673407 q673377 = .inr (21, [.ref q673377, .null, .null, .null, .null, .int p673378, .int p673379]) := e673408
      have hfr673411 : rFr [q673377] P673375 F673376 F673407 := rFr_put' List.mem_cons_self hfr673406 n673409
      refine G_aload_n 0 dr_cE_Throwable_init4_46 rfl ?_
      refine G_aload_nN 2 dr_cE_Throwable_init4_47 rfl ?_
      refine Gp_put 0 hmq673377 he673410 dr_cE_Throwable_init4_48 (gk_X16 D I) (Nat.le_of_ble_eq_true rfl) wr_5_15 rfl rfl rfl (Nat.le_of_ble_eq_true rfl) (fun F673412 e673413 n673414 => ?_)
      have he673415 : F673412 q673377 = .inr (21, [.null, .null, .null, .null, .null, .int p673378, .int p673379]) := e673413
      have hfr673416 : rFr [q673377] P673375 F673376 F673412 := rFr_put' List.mem_cons_self hfr673411 n673414
      refine G_iload_n 3 dr_cE_Throwable_init4_51 rfl ?_
      refine G_if_ne 60 dr_cE_Throwable_init4_52 (by decide +kernel) (fun hc => absurd hc (by decide)) (fun _ => ?_)
      refine G_aload_n 0 dr_cE_Throwable_init4_55 rfl ?_
      refine G_null dr_cE_Throwable_init4_56 ?_
      refine Gp_put 2 hmq673377 he673415 dr_cE_Throwable_init4_57 (gk_X16 D I) (Nat.le_of_ble_eq_true rfl) wr_5_17 rfl rfl rfl (Nat.le_of_ble_eq_true rfl) (fun F673417 e673418 n673419 => ?_)
      have he673420 : F673417 q673377 = .inr (21, [.null, .null, .null, .null, .null, .int p673378, .int p673379]) := e673418
      have hfr673421 : rFr [q673377] P673375 F673376 F673417 := rFr_put' List.mem_cons_self hfr673416 n673419
      exact G_vretA dr_cE_Throwable_init4_60 rfl (Nat.le_of_ble_eq_true rfl) (Nat.le_of_ble_eq_true rfl) ⟨F673417, rfl, rfl, hfr673421, he673420, (Nat.le_of_ble_eq_true rfl), (Nat.le_of_ble_eq_true rfl)⟩
    · refine Gp_put 2 hmq673377 he673392 dr_cE_Throwable_init4_20 (gk_X16 D I) (Nat.le_of_ble_eq_true rfl) wr_5_17 rfl rfl rfl (Nat.le_of_ble_eq_true rfl) (fun F673422 e673423 n673424 => ?_)
      have he673425 : F673422 q673377 = .inr (21, [.ref q673377, .null, .ref t673394, .null, .null, .int p673378, .int p673379]) := e673423
      have hfr673426 : rFr [q673377] P673375 F673376 F673422 := rFr_put' List.mem_cons_self hfr673393 n673424
      refine G_iload 4 dr_cE_Throwable_init4_23 rfl ?_
      refine G_if_eq 36 dr_cE_Throwable_init4_25 (by decide +kernel) (fun _ => ?_) (fun hc => absurd hc (by decide))
      refine G_aload_n 0 dr_cE_Throwable_init4_36 rfl ?_
      refine G_null dr_cE_Throwable_init4_37 ?_
      refine Gp_put 1 hmq673377 he673425 dr_cE_Throwable_init4_38 (gk_X16 D I) (Nat.le_of_ble_eq_true rfl) wr_5_16 rfl rfl rfl (Nat.le_of_ble_eq_true rfl) (fun F673427 e673428 n673429 => ?_)
      have he673430 : F673427 q673377 = .inr (21, [.ref q673377, .null, .ref t673394, .null, .null, .int p673378, .int p673379]) := e673428
      have hfr673431 : rFr [q673377] P673375 F673376 F673427 := rFr_put' List.mem_cons_self hfr673426 n673429
      refine G_aload_n 0 dr_cE_Throwable_init4_41 rfl ?_
      refine G_aload_nN 1 dr_cE_Throwable_init4_42 rfl ?_
      refine Gp_put 3 hmq673377 he673430 dr_cE_Throwable_init4_43 (gk_X16 D I) (Nat.le_of_ble_eq_true rfl) wr_5_14 rfl rfl rfl (Nat.le_of_ble_eq_true rfl) (fun F673432 e673433 n673434 => ?_)
      have he673435 : F673432 q673377 = .inr (21, [.ref q673377, .null, .ref t673394, .null, .null, .int p673378, .int p673379]) := e673433
      have hfr673436 : rFr [q673377] P673375 F673376 F673432 := rFr_put' List.mem_cons_self hfr673431 n673434
      refine G_aload_n 0 dr_cE_Throwable_init4_46 rfl ?_
      refine G_aload_nN 2 dr_cE_Throwable_init4_47 rfl ?_
      refine Gp_put 0 hmq673377 he673435 dr_cE_Throwable_init4_48 (gk_X16 D I) (Nat.le_of_ble_eq_true rfl) wr_5_15 rfl rfl rfl (Nat.le_of_ble_eq_true rfl) (fun F673437 e673438 n673439 => ?_)
      have he673440 : F673437 q673377 = .inr (21, [.null, .null, .ref t673394, .null, .null, .int p673378, .int p673379]) := e673438
      have hfr673441 : rFr [q673377] P673375 F673376 F673437 := rFr_put' List.mem_cons_self hfr673436 n673439
      refine G_iload_n 3 dr_cE_Throwable_init4_51 rfl ?_
      refine G_if_ne 60 dr_cE_Throwable_init4_52 (by decide +kernel) (fun hc => absurd hc (by decide)) (fun _ => ?_)
      refine G_aload_n 0 dr_cE_Throwable_init4_55 rfl ?_
      refine G_null dr_cE_Throwable_init4_56 ?_
      refine Gp_put 2 hmq673377 he673440 dr_cE_Throwable_init4_57 (gk_X16 D I) (Nat.le_of_ble_eq_true rfl) wr_5_17 rfl rfl rfl (Nat.le_of_ble_eq_true rfl) (fun F673442 e673443 n673444 => ?_)
      have he673445 : F673442 q673377 = .inr (21, [.null, .null, .null, .null, .null, .int p673378, .int p673379]) := e673443
      have hfr673446 : rFr [q673377] P673375 F673376 F673442 := rFr_put' List.mem_cons_self hfr673441 n673444
      exact G_vretA dr_cE_Throwable_init4_60 rfl (Nat.le_of_ble_eq_true rfl) (Nat.le_of_ble_eq_true rfl) ⟨F673442, rfl, rfl, hfr673446, he673445, (Nat.le_of_ble_eq_true rfl), (Nat.le_of_ble_eq_true rfl)⟩
  · refine Gp_put 1 hmq673377 he673384 dr_cE_Throwable_init4_13 (gk_X16 D I) (Nat.le_of_ble_eq_true rfl) wr_5_16 rfl rfl rfl (Nat.le_of_ble_eq_true rfl) (fun F673447 e673448 n673449 => ?_)
    have he673450 : F673447 q673377 = .inr (21, [.ref q673377, .ref t673386, .null, .null, .null, .int p673378, .int p673379]) := e673448
    have hfr673451 : rFr [q673377] P673375 F673376 F673447 := rFr_put' List.mem_cons_self hfr673385 n673449
    refine G_aload_n 0 dr_cE_Throwable_init4_16 rfl ?_
    refine G_gets dr_cE_Throwable_init4_17 wr_4_223 gz_ss (fun x673454 hx673453 => ?_)
    rcases hx673453 with rfl | ⟨t673452, rfl⟩
    · refine Gp_put 2 hmq673377 he673450 dr_cE_Throwable_init4_20 (gk_X16 D I) (Nat.le_of_ble_eq_true rfl) wr_5_17 rfl rfl rfl (Nat.le_of_ble_eq_true rfl) (fun F673455 e673456 n673457 => ?_)
      have he673458 : F673455 q673377 = .inr (21, [.ref q673377, .ref t673386, .null, .null, .null, .int p673378, .int p673379]) := e673456
      have hfr673459 : rFr [q673377] P673375 F673376 F673455 := rFr_put' List.mem_cons_self hfr673451 n673457
      refine G_iload 4 dr_cE_Throwable_init4_23 rfl ?_
      refine G_if_eq 36 dr_cE_Throwable_init4_25 (by decide +kernel) (fun _ => ?_) (fun hc => absurd hc (by decide))
      refine G_aload_n 0 dr_cE_Throwable_init4_36 rfl ?_
      refine G_null dr_cE_Throwable_init4_37 ?_
      refine Gp_put 1 hmq673377 he673458 dr_cE_Throwable_init4_38 (gk_X16 D I) (Nat.le_of_ble_eq_true rfl) wr_5_16 rfl rfl rfl (Nat.le_of_ble_eq_true rfl) (fun F673460 e673461 n673462 => ?_)
      have he673463 : F673460 q673377 = .inr (21, [.ref q673377, .null, .null, .null, .null, .int p673378, .int p673379]) := e673461
      have hfr673464 : rFr [q673377] P673375 F673376 F673460 := rFr_put' List.mem_cons_self hfr673459 n673462
      refine G_aload_n 0 dr_cE_Throwable_init4_41 rfl ?_
      refine G_aload_nN 1 dr_cE_Throwable_init4_42 rfl ?_
      refine Gp_put 3 hmq673377 he673463 dr_cE_Throwable_init4_43 (gk_X16 D I) (Nat.le_of_ble_eq_true rfl) wr_5_14 rfl rfl rfl (Nat.le_of_ble_eq_true rfl) (fun F673465 e673466 n673467 => ?_)
      have he673468 : F673465 q673377 = .inr (21, [.ref q673377, .null, .null, .null, .null, .int p673378, .int p673379]) := e673466
      have hfr673469 : rFr [q673377] P673375 F673376 F673465 := rFr_put' List.mem_cons_self hfr673464 n673467
      refine G_aload_n 0 dr_cE_Throwable_init4_46 rfl ?_
      refine G_aload_nN 2 dr_cE_Throwable_init4_47 rfl ?_
      refine Gp_put 0 hmq673377 he673468 dr_cE_Throwable_init4_48 (gk_X16 D I) (Nat.le_of_ble_eq_true rfl) wr_5_15 rfl rfl rfl (Nat.le_of_ble_eq_true rfl) (fun F673470 e673471 n673472 => ?_)
      have he673473 : F673470 q673377 = .inr (21, [.null, .null, .null, .null, .null, .int p673378, .int p673379]) := e673471
      have hfr673474 : rFr [q673377] P673375 F673376 F673470 := rFr_put' List.mem_cons_self hfr673469 n673472
      refine G_iload_n 3 dr_cE_Throwable_init4_51 rfl ?_
      refine G_if_ne 60 dr_cE_Throwable_init4_52 (by decide +kernel) (fun hc => absurd hc (by decide)) (fun _ => ?_)
      refine G_aload_n 0 dr_cE_Throwable_init4_55 rfl ?_
      refine G_null dr_cE_Throwable_init4_56 ?_
      refine Gp_put 2 hmq673377 he673473 dr_cE_Throwable_init4_57 (gk_X16 D I) (Nat.le_of_ble_eq_true rfl) wr_5_17 rfl rfl rfl (Nat.le_of_ble_eq_true rfl) (fun F673475 e673476 n673477 => ?_)
      have he673478 : F673475 q673377 = .inr (21, [.null, .null, .null, .null, .null, .int p673378, .int p673379]) := e673476
      have hfr673479 : rFr [q673377] P673375 F673376 F673475 := rFr_put' List.mem_cons_self hfr673474 n673477
      exact G_vretA dr_cE_Throwable_init4_60 rfl (Nat.le_of_ble_eq_true rfl) (Nat.le_of_ble_eq_true rfl) ⟨F673475, rfl, rfl, hfr673479, he673478, (Nat.le_of_ble_eq_true rfl), (Nat.le_of_ble_eq_true rfl)⟩
    · refine Gp_put 2 hmq673377 he673450 dr_cE_Throwable_init4_20 (gk_X16 D I) (Nat.le_of_ble_eq_true rfl) wr_5_17 rfl rfl rfl (Nat.le_of_ble_eq_true rfl) (fun F673480 e673481 n673482 => ?_)
      have he673483 : F673480 q673377 = .inr (21, [.ref q673377, .ref t673386, .ref t673452, .null, .null, .int p673378, .int p673379]) := e673481
      have hfr673484 : rFr [q673377] P673375 F673376 F673480 := rFr_put' List.mem_cons_self hfr673451 n673482
      refine G_iload 4 dr_cE_Throwable_init4_23 rfl ?_
      refine G_if_eq 36 dr_cE_Throwable_init4_25 (by decide +kernel) (fun _ => ?_) (fun hc => absurd hc (by decide))
      refine G_aload_n 0 dr_cE_Throwable_init4_36 rfl ?_
      refine G_null dr_cE_Throwable_init4_37 ?_
      refine Gp_put 1 hmq673377 he673483 dr_cE_Throwable_init4_38 (gk_X16 D I) (Nat.le_of_ble_eq_true rfl) wr_5_16 rfl rfl rfl (Nat.le_of_ble_eq_true rfl) (fun F673485 e673486 n673487 => ?_)
      have he673488 : F673485 q673377 = .inr (21, [.ref q673377, .null, .ref t673452, .null, .null, .int p673378, .int p673379]) := e673486
      have hfr673489 : rFr [q673377] P673375 F673376 F673485 := rFr_put' List.mem_cons_self hfr673484 n673487
      refine G_aload_n 0 dr_cE_Throwable_init4_41 rfl ?_
      refine G_aload_nN 1 dr_cE_Throwable_init4_42 rfl ?_
      refine Gp_put 3 hmq673377 he673488 dr_cE_Throwable_init4_43 (gk_X16 D I) (Nat.le_of_ble_eq_true rfl) wr_5_14 rfl rfl rfl (Nat.le_of_ble_eq_true rfl) (fun F673490 e673491 n673492 => ?_)
      have he673493 : F673490 q673377 = .inr (21, [.ref q673377, .null, .ref t673452, .null, .null, .int p673378, .int p673379]) := e673491
      have hfr673494 : rFr [q673377] P673375 F673376 F673490 := rFr_put' List.mem_cons_self hfr673489 n673492
      refine G_aload_n 0 dr_cE_Throwable_init4_46 rfl ?_
      refine G_aload_nN 2 dr_cE_Throwable_init4_47 rfl ?_
      refine Gp_put 0 hmq673377 he673493 dr_cE_Throwable_init4_48 (gk_X16 D I) (Nat.le_of_ble_eq_true rfl) wr_5_15 rfl rfl rfl (Nat.le_of_ble_eq_true rfl) (fun F673495 e673496 n673497 => ?_)
      have he673498 : F673495 q673377 = .inr (21, [.null, .null, .ref t673452, .null, .null, .int p673378, .int p673379]) := e673496
      have hfr673499 : rFr [q673377] P673375 F673376 F673495 := rFr_put' List.mem_cons_self hfr673494 n673497
      refine G_iload_n 3 dr_cE_Throwable_init4_51 rfl ?_
      refine G_if_ne 60 dr_cE_Throwable_init4_52 (by decide +kernel) (fun hc => absurd hc (by decide)) (fun _ => ?_)
      refine G_aload_n 0 dr_cE_Throwable_init4_55 rfl ?_
      refine G_null dr_cE_Throwable_init4_56 ?_
      refine Gp_put 2 hmq673377 he673498 dr_cE_Throwable_init4_57 (gk_X16 D I) (Nat.le_of_ble_eq_true rfl) wr_5_17 rfl rfl rfl (Nat.le_of_ble_eq_true rfl) (fun F673500 e673501 n673502 => ?_)
      have he673503 : F673500 q673377 = .inr (21, [.null, .null, .null, .null, .null, .int p673378, .int p673379]) := e673501
      have hfr673504 : rFr [q673377] P673375 F673376 F673500 := rFr_put' List.mem_cons_self hfr673499 n673502
      exact G_vretA dr_cE_Throwable_init4_60 rfl (Nat.le_of_ble_eq_true rfl) (Nat.le_of_ble_eq_true rfl) ⟨F673500, rfl, rfl, hfr673504, he673503, (Nat.le_of_ble_eq_true rfl), (Nat.le_of_ble_eq_true rfl)⟩
abbrev ky_673374_Exception_init : gKey := (cE_Exception_init4, 5, "java/lang/Exception", none, [], "<init>", fun _ _ => True)
def pp_673374_Exception_init (D : va_G) (I : FieldType → ClassId) (P673369 : List Nat) (F673370 : Nat → va_E) (q673371 : Nat) (p673372 : Int32) (p673373 : Int32) : Option Value → va_W → Nat → Nat → Prop := fun r w dc ds => ∃ (F673518 : Nat → va_E), r = none ∧ w = va_pl P673369 F673518 ∧ rFr [q673371] P673369 F673370 F673518 ∧ F673518 q673371 = .inr (21, [.null, .null, .null, .null, .null, .int p673372, .int p673373]) ∧ dc ≤ 0 ∧ ds ≤ 0
set_option maxRecDepth 100000 in
set_option maxHeartbeats 4000000 in
theorem cp_673374_Exception_init (l : Launch) (hl0 : l.stackTraces = false) (D : va_G) (I : FieldType → ClassId) (P673369 : List Nat) (F673370 : Nat → va_E) (q673371 : Nat) (p673372 : Int32) (p673373 : Int32) (hmq673371 : q673371 ∈ P673369) (heq673371 : F673370 q673371 = .inr (21, [.null, .null, .null, .null, .null, .int p673372, .int p673373])) (bp673373 : gB p673373 0 8192) : CtA (gV D I) l yE_Exception_init4 cE_Exception_init4 5 none 2 36 0 0 [.ref q673371, .null, .null, .int 0, .int 0] (va_pl P673369 F673370) (pp_673374_Exception_init D I P673369 F673370 q673371 p673372 p673373) gNA := by
  refine CtA_ofF hl0 (by decide +kernel) (Nat.le_of_ble_eq_true rfl) ?_
  have bp673372 := gB_any p673372
  refine G_aload_n 0 dr_cE_Exception_init4_0 rfl ?_
  refine G_aload_nN 1 dr_cE_Exception_init4_1 rfl ?_
  refine G_aload_nN 2 dr_cE_Exception_init4_2 rfl ?_
  refine G_iload_n 3 dr_cE_Exception_init4_3 rfl ?_
  refine G_iload 4 dr_cE_Exception_init4_4 rfl ?_
  refine Gw_callI (As := [.null, .null, .int 0, .int 0]) (gV_ok D I) (cp_673380_Throwable_init l hl0 D I P673369 F673370 q673371 p673372 p673373 hmq673371 heq673371 bp673373) dr_cE_Exception_init4_6 ⟨wr_9_119, wr_1_23, wr_9_121, by decide, rfl, (Nat.le_of_ble_eq_true rfl), (Nat.le_of_ble_eq_true rfl)⟩ wr_9_120 rfl (show 0 + 0 ≤ 0 by first | omega | decide) (show 0 + 0 ≤ 0 by first | omega | decide) (Nat.le_of_ble_eq_true rfl) (fun r673510 w673511 dc673507 ds673508 hp673509 => ?_)
  obtain ⟨F673512, rfl, rfl, hfr673514, he673515, hdc, hds⟩ := hp673509
  have hfr673516 : rFr [q673371] P673369 F673370 F673512 := rFr_call (rSub_rf (P := P673369)) (rFr_rf (W := []) (P := P673369) (F := F673370)) hfr673514 (fun b hb hn => ⟨nm_n, (nm_c (fun e => hn (e ▸ List.mem_cons_self)) nm_n)⟩)
  change G _ _ _ _ _ _ _ _ _ _ _
  refine G_widen (cs' := 0) (sl' := 0) (by omega) (by omega) ?_
  exact G_vretA dr_cE_Exception_init4_9 rfl (Nat.le_of_ble_eq_true rfl) (Nat.le_of_ble_eq_true rfl) ⟨F673512, rfl, rfl, hfr673516, he673515, (Nat.le_of_ble_eq_true rfl), (Nat.le_of_ble_eq_true rfl)⟩
abbrev ky_673368_RuntimeException_init : gKey := (cE_RuntimeException_init4, 5, "java/lang/RuntimeException", none, [], "<init>", fun _ _ => True)
def pp_673368_RuntimeException_init (D : va_G) (I : FieldType → ClassId) (P673363 : List Nat) (F673364 : Nat → va_E) (q673365 : Nat) (p673366 : Int32) (p673367 : Int32) : Option Value → va_W → Nat → Nat → Prop := fun r w dc ds => ∃ (F673530 : Nat → va_E), r = none ∧ w = va_pl P673363 F673530 ∧ rFr [q673365] P673363 F673364 F673530 ∧ F673530 q673365 = .inr (21, [.null, .null, .null, .null, .null, .int p673366, .int p673367]) ∧ dc ≤ 0 ∧ ds ≤ 0
set_option maxRecDepth 100000 in
set_option maxHeartbeats 4000000 in
theorem cp_673368_RuntimeException_init (l : Launch) (hl0 : l.stackTraces = false) (D : va_G) (I : FieldType → ClassId) (P673363 : List Nat) (F673364 : Nat → va_E) (q673365 : Nat) (p673366 : Int32) (p673367 : Int32) (hmq673365 : q673365 ∈ P673363) (heq673365 : F673364 q673365 = .inr (21, [.null, .null, .null, .null, .null, .int p673366, .int p673367])) (bp673367 : gB p673367 0 8192) : CtA (gV D I) l yE_RuntimeException_init4 cE_RuntimeException_init4 5 none 3 60 0 0 [.ref q673365, .null, .null, .int 0, .int 0] (va_pl P673363 F673364) (pp_673368_RuntimeException_init D I P673363 F673364 q673365 p673366 p673367) gNA := by
  refine CtA_ofF hl0 (by decide +kernel) (Nat.le_of_ble_eq_true rfl) ?_
  have bp673366 := gB_any p673366
  refine G_aload_n 0 dr_cE_RuntimeException_init4_0 rfl ?_
  refine G_aload_nN 1 dr_cE_RuntimeException_init4_1 rfl ?_
  refine G_aload_nN 2 dr_cE_RuntimeException_init4_2 rfl ?_
  refine G_iload_n 3 dr_cE_RuntimeException_init4_3 rfl ?_
  refine G_iload 4 dr_cE_RuntimeException_init4_4 rfl ?_
  refine Gw_callI (As := [.null, .null, .int 0, .int 0]) (gV_ok D I) (cp_673374_Exception_init l hl0 D I P673363 F673364 q673365 p673366 p673367 hmq673365 heq673365 bp673367) dr_cE_RuntimeException_init4_6 ⟨wr_9_116, wr_1_24, wr_9_118, by decide, rfl, (Nat.le_of_ble_eq_true rfl), (Nat.le_of_ble_eq_true rfl)⟩ wr_9_117 rfl (show 0 + 0 ≤ 0 by first | omega | decide) (show 0 + 0 ≤ 0 by first | omega | decide) (Nat.le_of_ble_eq_true rfl) (fun r673522 w673523 dc673519 ds673520 hp673521 => ?_)
  obtain ⟨F673524, rfl, rfl, hfr673526, he673527, hdc, hds⟩ := hp673521
  have hfr673528 : rFr [q673365] P673363 F673364 F673524 := rFr_call (rSub_rf (P := P673363)) (rFr_rf (W := []) (P := P673363) (F := F673364)) hfr673526 (fun b hb hn => ⟨nm_n, (nm_c (fun e => hn (e ▸ List.mem_cons_self)) nm_n)⟩)
  change G _ _ _ _ _ _ _ _ _ _ _
  refine G_widen (cs' := 0) (sl' := 0) (by omega) (by omega) ?_
  exact G_vretA dr_cE_RuntimeException_init4_9 rfl (Nat.le_of_ble_eq_true rfl) (Nat.le_of_ble_eq_true rfl) ⟨F673524, rfl, rfl, hfr673528, he673527, (Nat.le_of_ble_eq_true rfl), (Nat.le_of_ble_eq_true rfl)⟩
abbrev ky_673362_Wrong_init : gKey := (cX16_init, 2, "SpillForgeModel$Wrong", none, [], "<init>", fun _ _ => True)
def pp_673362_Wrong_init (D : va_G) (I : FieldType → ClassId) (P673356 : List Nat) (F673357 : Nat → va_E) (q673358 : Nat) (p673359 : Int32) (p673360 : Int32) (p673361 : Int32) : Option Value → va_W → Nat → Nat → Prop := fun r w dc ds => ∃ (F673547 : Nat → va_E), r = none ∧ w = va_pl P673356 F673547 ∧ rFr [q673358] P673356 F673357 F673547 ∧ F673547 q673358 = .inr (21, [.null, .null, .null, .null, .null, .int p673360, .int p673359]) ∧ dc ≤ 0 ∧ ds ≤ 0
set_option maxRecDepth 100000 in
set_option maxHeartbeats 4000000 in
theorem cp_673362_Wrong_init (l : Launch) (hl0 : l.stackTraces = false) (D : va_G) (I : FieldType → ClassId) (P673356 : List Nat) (F673357 : Nat → va_E) (q673358 : Nat) (p673359 : Int32) (p673360 : Int32) (p673361 : Int32) (hmq673358 : q673358 ∈ P673356) (heq673358 : F673357 q673358 = .inr (21, [.null, .null, .null, .null, .null, .int p673360, .int p673361])) (bp673361 : gB p673361 0 8192) : CtA (gV D I) l yX16_init cX16_init 2 none 4 84 0 0 [.ref q673358, .int p673359] (va_pl P673356 F673357) (pp_673362_Wrong_init D I P673356 F673357 q673358 p673359 p673360 p673361) gNA := by
  refine CtA_of hl0 (by decide) (Nat.le_of_ble_eq_true rfl) ?_
  have bp673359 := gB_any p673359
  have bp673360 := gB_any p673360
  refine G_aload_n 0 dr_cX16_init_0 rfl ?_
  refine G_null dr_cX16_init_1 ?_
  refine G_null dr_cX16_init_2 ?_
  refine G_iconst 0 dr_cX16_init_3 (by decide +kernel) ?_
  refine G_iconst 0 dr_cX16_init_4 (by decide +kernel) ?_
  refine Gw_callI (As := [.null, .null, .int 0, .int 0]) (gV_ok D I) (cp_673368_RuntimeException_init l hl0 D I P673356 F673357 q673358 p673360 p673361 hmq673358 heq673358 bp673361) dr_cX16_init_5 ⟨wr_9_113, wr_1_25, wr_9_115, by decide, rfl, (Nat.le_of_ble_eq_true rfl), (Nat.le_of_ble_eq_true rfl)⟩ wr_9_114 rfl (show 0 + 0 ≤ 0 by first | omega | decide) (show 0 + 0 ≤ 0 by first | omega | decide) (Nat.le_of_ble_eq_true rfl) (fun r673534 w673535 dc673531 ds673532 hp673533 => ?_)
  obtain ⟨F673536, rfl, rfl, hfr673538, he673539, hdc, hds⟩ := hp673533
  have hfr673540 : rFr [q673358] P673356 F673357 F673536 := rFr_call (rSub_rf (P := P673356)) (rFr_rf (W := []) (P := P673356) (F := F673357)) hfr673538 (fun b hb hn => ⟨nm_n, (nm_c (fun e => hn (e ▸ List.mem_cons_self)) nm_n)⟩)
  change G _ _ _ _ _ _ _ _ _ _ _
  refine G_widen (cs' := 0) (sl' := 0) (by omega) (by omega) ?_
  refine G_aload_n 0 dr_cX16_init_8 rfl ?_
  refine G_iload_n 1 dr_cX16_init_9 rfl ?_
  refine Gp_putF 6 hmq673358 he673539 dr_cX16_init_10 (gk_X16 D I) (Nat.le_of_ble_eq_true rfl) wr_9_122 rfl rfl rfl rfl rfl (Nat.le_of_ble_eq_true rfl) (fun F673541 e673542 n673543 => ?_)
  have he673544 : F673541 q673358 = .inr (21, [.null, .null, .null, .null, .null, .int p673360, .int p673359]) := e673542
  have hfr673545 : rFr [q673358] P673356 F673357 F673541 := rFr_put' List.mem_cons_self hfr673540 n673543
  exact G_vretA dr_cX16_init_13 rfl (Nat.le_of_ble_eq_true rfl) (Nat.le_of_ble_eq_true rfl) ⟨F673541, rfl, rfl, hfr673545, he673544, (Nat.le_of_ble_eq_true rfl), (Nat.le_of_ble_eq_true rfl)⟩
abbrev ky_673339_Reader_no : gKey := (cX14_no, 1, "SpillForgeModel$Reader", (some (FieldType.object "SpillForgeModel$Wrong")), [], "no", fun _ _ => True)
def pp_673339_Reader_no (D : va_G) (I : FieldType → ClassId) (P673321 : List Nat) (F673322 : Nat → va_E) (q673323 : Nat) (q673324 : Nat) (p673325 : Int32) (p673326 : Int32) (p673327 : Int32) (p673328 : Int32) (p673329 : Int32) (p673330 : Int32) (qo673331 : Nat) (p673332 : Int32) (p673333 : Int32) (p673334 : Int32) (qo673335 : Nat) (qo673336 : Nat) (p673337 : Int32) (f673338 : Nat → Int32) : Option Value → va_W → Nat → Nat → Prop := fun r w dc ds => ∃ (P673561 : List Nat) (F673562 : Nat → va_E) (q673560 : Nat), r = some (.ref q673560) ∧ w = va_pl P673561 F673562 ∧ rSub P673321 P673561 ∧ rFr [] P673321 F673322 F673562 ∧ F673562 q673323 = .inr (19, [.ref q673324, .int p673325, .int p673326, .int p673327, .int p673328, .int p673329, .int p673330, .ref qo673331, .int p673332, .int p673333, .int p673334, .ref qo673335, .ref qo673336, .int p673337]) ∧ F673562 q673324 = .inl (I .byte, 8192, .inl f673338) ∧ F673562 q673560 = .inr (21, [.null, .null, .null, .null, .null, .int 0, .int p673328]) ∧ q673560 ∈ P673561 ∧ q673560 ∉ P673321 ∧ dc ≤ 1 ∧ ds ≤ 7
set_option maxRecDepth 100000 in
set_option maxHeartbeats 4000000 in
theorem cp_673339_Reader_no (l : Launch) (hl0 : l.stackTraces = false) (D : va_G) (I : FieldType → ClassId) (P673321 : List Nat) (F673322 : Nat → va_E) (q673323 : Nat) (q673324 : Nat) (p673325 : Int32) (p673326 : Int32) (p673327 : Int32) (p673328 : Int32) (p673329 : Int32) (p673330 : Int32) (qo673331 : Nat) (p673332 : Int32) (p673333 : Int32) (p673334 : Int32) (qo673335 : Nat) (qo673336 : Nat) (p673337 : Int32) (f673338 : Nat → Int32) (hmq673323 : q673323 ∈ P673321) (hmq673324 : q673324 ∈ P673321) (heq673323 : F673322 q673323 = .inr (19, [.ref q673324, .int p673325, .int p673326, .int p673327, .int p673328, .int p673329, .int p673330, .ref qo673331, .int p673332, .int p673333, .int p673334, .ref qo673335, .ref qo673336, .int p673337])) (heq673324 : F673322 q673324 = .inl (I .byte, 8192, .inl f673338)) (bp673325 : gB p673325 0 8192) (bp673326 : gB p673326 0 8192) (bp673327 : gB p673327 0 6) (bp673328 : gB p673328 0 8192) (bp673330 : gB p673330 0 6) (bp673332 : gB p673332 (-1) 8192) (bp673333 : gB p673333 0 4) (bp673334 : gB p673334 0 1000000) (bp673337 : gB p673337 0 1000000) (bf673338 : gF f673338 (-128) 127) : CtA (gV D I) l yX14_no cX14_no 1 (some (FieldType.object "SpillForgeModel$Wrong")) 5 105 1 7 [.ref q673323] (va_pl P673321 F673322) (pp_673339_Reader_no D I P673321 F673322 q673323 q673324 p673325 p673326 p673327 p673328 p673329 p673330 qo673331 p673332 p673333 p673334 qo673335 qo673336 p673337 f673338) gNA := by
  refine CtA_of hl0 (by decide) (Nat.le_of_ble_eq_true rfl) ?_
  have bp673329 := gB_any p673329
  refine G_new [.null, .null, .null, .null, .null, .int 0, .int 0] dr_cX14_no_0 (gk_X16 D I) wr_9_101 wr_9_102 wr_1_37 (gfs_X16) (show 0 + 1 ≤ 1 by first | omega | decide) (show 0 + 7 ≤ 7 by first | omega | decide) (fun q673340 => Gp_in (fun P673341 F673342 hq673343 hP673344 e673345 n673346 => ?_))
  refine G_widen (cs' := 1) (sl' := 7) (by omega) (by omega) ?_
  have he673347 : F673342 q673323 = .inr (19, [.ref q673324, .int p673325, .int p673326, .int p673327, .int p673328, .int p673329, .int p673330, .ref qo673331, .int p673332, .int p673333, .int p673334, .ref qo673335, .ref qo673336, .int p673337]) := (n673346 q673323 (fun h => hq673343 (h ▸ hmq673323))).trans heq673323
  have he673348 : F673342 q673324 = .inl (I .byte, 8192, .inl f673338) := (n673346 q673324 (fun h => hq673343 (h ▸ hmq673324))).trans heq673324
  have he673349 : F673342 q673340 = .inr (21, [.null, .null, .null, .null, .null, .int 0, .int 0]) := e673345
  have hm673350 : q673323 ∈ P673341 := (hP673344 q673323).mpr (Or.inl hmq673323)
  have hm673351 : q673324 ∈ P673341 := (hP673344 q673324).mpr (Or.inl hmq673324)
  have hm673352 : q673340 ∈ P673341 := (hP673344 q673340).mpr (Or.inr rfl)
  have hq673353 : q673340 ∉ P673321 := fun z => hq673343 ((rSub_rf (P := P673321)) q673340 z)
  have hfr673354 : rFr [] P673321 F673322 F673342 := rFr_new (rSub_rf (P := P673321)) hq673343 (rFr_rf (W := []) (P := P673321) (F := F673322)) n673346
  have hsb673355 : rSub P673321 P673341 := rSub_new (rSub_rf (P := P673321)) hP673344
  refine G_dup dr_cX14_no_3 rfl ?_
  refine G_aload_n 0 dr_cX14_no_4 rfl ?_
  refine Gp_get 4 hm673350 he673347 dr_cX14_no_5 (gk_X14 D I) (Nat.le_of_ble_eq_true rfl) wr_9_40 rfl ?_
  refine Gw_callI (As := [.int p673328]) (gV_ok D I) (cp_673362_Wrong_init l hl0 D I P673341 F673342 q673340 p673328 0 0 hm673352 he673349 (gB_w (gBl (show Int32.toInt 0 = 0 by decide)) (by decide) (by decide))) dr_cX14_no_8 ⟨wr_9_110, wr_1_37, wr_9_112, by decide, rfl, (Nat.le_of_ble_eq_true rfl), (Nat.le_of_ble_eq_true rfl)⟩ wr_9_111 rfl (show 1 + 0 ≤ 1 by first | omega | decide) (show 7 + 0 ≤ 7 by first | omega | decide) (Nat.le_of_ble_eq_true rfl) (fun r673551 w673552 dc673548 ds673549 hp673550 => ?_)
  obtain ⟨F673553, rfl, rfl, hfr673555, he673556, hdc, hds⟩ := hp673550
  have he673557 : F673553 q673323 = .inr (19, [.ref q673324, .int p673325, .int p673326, .int p673327, .int p673328, .int p673329, .int p673330, .ref qo673331, .int p673332, .int p673333, .int p673334, .ref qo673335, .ref qo673336, .int p673337]) := (hfr673555 q673323 hm673350 (nm_c (fun h => hq673353 (h ▸ hmq673323)) nm_n)).trans he673347
  have he673558 : F673553 q673324 = .inl (I .byte, 8192, .inl f673338) := (hfr673555 q673324 hm673351 (nm_c (fun h => hq673353 (h ▸ hmq673324)) nm_n)).trans he673348
  have hfr673559 : rFr [] P673321 F673322 F673553 := rFr_call hsb673355 hfr673354 hfr673555 (fun b hb hn => ⟨nm_n, (nm_c (fun e => hq673353 (e ▸ hb)) nm_n)⟩)
  change G _ _ _ _ _ _ _ _ _ _ _
  refine G_widen (cs' := 1) (sl' := 7) (by omega) (by omega) ?_
  exact G_aretA (FieldType.object "SpillForgeModel$Wrong") dr_cX14_no_11 rfl (by first | exact Or.inl ⟨_, rfl⟩ | exact Or.inr ⟨_, rfl⟩) (Or.inr ⟨_, rfl⟩) (Nat.le_of_ble_eq_true rfl) (Nat.le_of_ble_eq_true rfl) ⟨P673341, F673553, q673340, rfl, rfl, hsb673355, hfr673559, he673557, he673558, he673556, hm673352, hq673353, (Nat.le_of_ble_eq_true rfl), (Nat.le_of_ble_eq_true rfl)⟩
/- tr_RReader_is: result -/
def tr_RReader_is (bs : List Int32) (a0_kind : Int32) (xt : gTx) (o1 : Int32) : Prop := ∀ R : (Int32) → Prop,
  (a0_kind.toInt = 5 → tr_RString_equals bs xt.2 xt.1 (0 : Int32) → R (0 : Int32)) →
  (a0_kind.toInt = 5 → tr_RString_equals bs xt.2 xt.1 (1 : Int32) → R (1 : Int32)) →
  (a0_kind.toInt ≠ 5 → a0_kind.toInt ≠ 1 → R (0 : Int32)) →
  (a0_kind.toInt ≠ 5 → a0_kind.toInt = 1 → tr_RString_equals bs xt.2 xt.1 (0 : Int32) → R (0 : Int32)) →
  (a0_kind.toInt ≠ 5 → a0_kind.toInt = 1 → tr_RString_equals bs xt.2 xt.1 (1 : Int32) → R (1 : Int32)) →
  R o1
abbrev ky_673586_Reader_is : gKey := (cX14_is, 2, "SpillForgeModel$Reader", (some FieldType.boolean), [], "is", fun _ _ => True)
def pp_673586_Reader_is (D : va_G) (I : FieldType → ClassId) (P673563 : List Nat) (F673564 : Nat → va_E) (q673565 : Nat) (q673566 : Nat) (qs673567 : Nat) (qb673568 : Nat) (bs673569 : List Int32) (p673570 : Int32) (p673571 : Int32) (p673572 : Int32) (p673573 : Int32) (p673574 : Int32) (p673575 : Int32) (qo673576 : Nat) (p673577 : Int32) (p673578 : Int32) (p673579 : Int32) (qo673580 : Nat) (qo673581 : Nat) (p673582 : Int32) (f673583 : Nat → Int32) (xt673584 : gTx) : Option Value → va_W → Nat → Nat → Prop := fun r w dc ds => ∃ (o673641 : Int32), r = some (.int o673641) ∧ w = va_pl P673563 F673564 ∧ dc ≤ 0 ∧ ds ≤ 0 ∧ gB o673641 0 1 ∧ isK p673572 o673641 ∧ tr_RReader_is bs673569 p673572 xt673584 o673641
set_option maxRecDepth 100000 in
set_option maxHeartbeats 4000000 in
theorem cp_673586_Reader_is (l : Launch) (hl0 : l.stackTraces = false) (D : va_G) (I : FieldType → ClassId) (P673563 : List Nat) (F673564 : Nat → va_E) (q673565 : Nat) (q673566 : Nat) (qs673567 : Nat) (qb673568 : Nat) (bs673569 : List Int32) (p673570 : Int32) (p673571 : Int32) (p673572 : Int32) (p673573 : Int32) (p673574 : Int32) (p673575 : Int32) (qo673576 : Nat) (p673577 : Int32) (p673578 : Int32) (p673579 : Int32) (qo673580 : Nat) (qo673581 : Nat) (p673582 : Int32) (f673583 : Nat → Int32) (xt673584 : gTx) (hmq673565 : q673565 ∈ P673563) (hmq673566 : q673566 ∈ P673563) (heq673565 : F673564 q673565 = .inr (19, [.ref q673566, .int p673570, .int p673571, .int p673572, .int p673573, .int p673574, .int p673575, .ref qo673576, .int p673577, .int p673578, .int p673579, .ref qo673580, .ref qo673581, .int p673582])) (heq673566 : F673564 q673566 = .inl (I .byte, 8192, .inl f673583)) (hbs673569 : ∀ A s H, (gV D I).2.2.2.1 A s H → gSC qs673567 qb673568 bs673569 A s H) (nbs673569 : (bs673569.length : Int) ≤ 65535) (lbs673569 : gLB bs673569) (bp673570 : gB p673570 0 8192) (bp673571 : gB p673571 0 8192) (bp673572 : gB p673572 0 6) (bp673573 : gB p673573 0 8192) (bp673575 : gB p673575 0 6) (bp673577 : gB p673577 (-1) 8192) (bp673578 : gB p673578 0 4) (bp673579 : gB p673579 0 1000000) (bp673582 : gB p673582 0 1000000) (bf673583 : gF f673583 (-128) 127) (x673585 : tP I P673563 F673564 p673572 qo673576 qo673581 qo673580 xt673584) : CtA (gV D I) l yX14_is cX14_is 2 (some FieldType.boolean) 2 44 0 0 [.ref q673565, .ref qs673567] (va_pl P673563 F673564) (pp_673586_Reader_is D I P673563 F673564 q673565 q673566 qs673567 qb673568 bs673569 p673570 p673571 p673572 p673573 p673574 p673575 qo673576 p673577 p673578 p673579 qo673580 qo673581 p673582 f673583 xt673584) gNA := by
  refine CtA_of hl0 (by decide) (Nat.le_of_ble_eq_true rfl) ?_
  have bp673574 := gB_any p673574
  refine G_aload_n 0 dr_cX14_is_0 rfl ?_
  refine Gp_get 3 hmq673565 heq673565 dr_cX14_is_1 (gk_X14 D I) (Nat.le_of_ble_eq_true rfl) wr_9_39 rfl ?_
  refine G_iconst 5 dr_cX14_is_4 (by decide +kernel) ?_
  refine G_icmp_eq 16 dr_cX14_is_5 (by decide +kernel) (fun hc673587 => ?_) (fun hc673587 => ?_)
  · have r673588 : p673572.toInt = 5 := gj_eq hc673587 (show Int32.toInt 5 = 5 by decide)
    have bp673572' : gB p673572 5 5 := ⟨by omega, by omega⟩
    refine G_aload_n 0 dr_cX14_is_16 rfl ?_
    refine Gp_get 7 hmq673565 heq673565 dr_cX14_is_17 (gk_X14 D I) (Nat.le_of_ble_eq_true rfl) wr_9_43 rfl ?_
    obtain ⟨q673589, p673590, p673591, hm673592, he673593, hm673594, he673595, bq673589, x673596, bp673591, hg673597, hg673598⟩ := x673585.2 (by omega)
    have bp673590 := gB_any p673590
    refine G_aload_n 1 dr_cX14_is_20 rfl ?_
    refine Gw_callV (As := [.ref qs673567]) (gV_ok D I) (cp_659256_String_equals l hl0 D I P673563 F673564 qo673576 q673589 qs673567 qb673568 bs673569 p673590 p673591 xt673584.2 xt673584.1 hm673592 hm673594 he673593 he673595 hbs673569 nbs673569 lbs673569 bp673591 bq673589 (by have qa0 : Int32.toInt 0 = 0 := (by decide); omega)) dr_cX14_is_21 ⟨wr_9_145, wr_1_21, wr_9_148, by decide, rfl, (Nat.le_of_ble_eq_true rfl), (Nat.le_of_ble_eq_true rfl)⟩ wr_9_146 wr_9_147 hm673592 he673593 rfl (show 0 + 0 ≤ 0 by first | omega | decide) (show 0 + 0 ≤ 0 by first | omega | decide) (Nat.le_of_ble_eq_true rfl) (fun r673602 w673603 dc673599 ds673600 hp673601 => ?_) (fun _ _ _ _ _ z => z.elim)
    rcases hp673601 with ⟨o673604, rfl, rfl, hdc, hds, r673605, r673606, r673607⟩ | ⟨o673608, rfl, rfl, hdc, hds, r673609, r673610, r673611⟩
    · change G _ _ _ _ _ _ _ (.int 0 :: _) _ _ _
      refine G_widen (cs' := 0) (sl' := 0) (by omega) (by omega) ?_
      refine G_if_eq 31 dr_cX14_is_24 (by decide +kernel) (fun _ => ?_) (fun hc => absurd hc (by decide))
      refine G_iconst 0 dr_cX14_is_31 (by decide +kernel) ?_
      exact G_zretA FieldType.boolean dr_cX14_is_32 rfl rfl (Nat.le_of_ble_eq_true rfl) (Nat.le_of_ble_eq_true rfl) ⟨0, rfl, rfl, (Nat.le_of_ble_eq_true rfl), (Nat.le_of_ble_eq_true rfl), (gB_w (gBl (show Int32.toInt 0 = 0 by decide)) (by decide) (by decide)), (Or.inl (by decide)), (fun R c1 c2 c3 c4 c5 => c1 r673588 r673607)⟩
    · change G _ _ _ _ _ _ _ (.int 1 :: _) _ _ _
      refine G_widen (cs' := 0) (sl' := 0) (by omega) (by omega) ?_
      refine G_if_eq 31 dr_cX14_is_24 (by decide +kernel) (fun hc => absurd hc (by decide)) (fun _ => ?_)
      refine G_iconst 1 dr_cX14_is_27 (by decide +kernel) ?_
      refine G_goto 32 dr_cX14_is_28 (by decide +kernel) ?_
      exact G_zretA FieldType.boolean dr_cX14_is_32 rfl rfl (Nat.le_of_ble_eq_true rfl) (Nat.le_of_ble_eq_true rfl) ⟨1, rfl, rfl, (Nat.le_of_ble_eq_true rfl), (Nat.le_of_ble_eq_true rfl), (gB_w (gBl (show Int32.toInt 1 = 1 by decide)) (by decide) (by decide)), (Or.inr (by omega)), (fun R c1 c2 c3 c4 c5 => c2 r673588 r673611)⟩
  · have r673613 : p673572.toInt ≠ 5 := gj_neq hc673587 (show Int32.toInt 5 = 5 by decide)
    refine G_aload_n 0 dr_cX14_is_8 rfl ?_
    refine Gp_get 3 hmq673565 heq673565 dr_cX14_is_9 (gk_X14 D I) (Nat.le_of_ble_eq_true rfl) wr_9_39 rfl ?_
    refine G_iconst 1 dr_cX14_is_12 (by decide +kernel) ?_
    refine G_icmp_ne 31 dr_cX14_is_13 (by decide +kernel) (fun hc673614 => ?_) (fun hc673614 => ?_)
    · have r673615 : p673572.toInt ≠ 1 := gj_neq hc673614 (show Int32.toInt 1 = 1 by decide)
      refine G_iconst 0 dr_cX14_is_31 (by decide +kernel) ?_
      exact G_zretA FieldType.boolean dr_cX14_is_32 rfl rfl (Nat.le_of_ble_eq_true rfl) (Nat.le_of_ble_eq_true rfl) ⟨0, rfl, rfl, (Nat.le_of_ble_eq_true rfl), (Nat.le_of_ble_eq_true rfl), (gB_w (gBl (show Int32.toInt 0 = 0 by decide)) (by decide) (by decide)), (Or.inl (by decide)), (fun R c1 c2 c3 c4 c5 => c3 r673613 r673615)⟩
    · have r673616 : p673572.toInt = 1 := gj_eq hc673614 (show Int32.toInt 1 = 1 by decide)
      have bp673572' : gB p673572 1 1 := ⟨by omega, by omega⟩
      refine G_aload_n 0 dr_cX14_is_16 rfl ?_
      refine Gp_get 7 hmq673565 heq673565 dr_cX14_is_17 (gk_X14 D I) (Nat.le_of_ble_eq_true rfl) wr_9_43 rfl ?_
      obtain ⟨q673617, p673618, p673619, hm673620, he673621, hm673622, he673623, bq673617, x673624, bp673619, hg673625, hg673626⟩ := x673585.1 (by omega)
      have bp673618 := gB_any p673618
      refine G_aload_n 1 dr_cX14_is_20 rfl ?_
      refine Gw_callV (As := [.ref qs673567]) (gV_ok D I) (cp_659256_String_equals l hl0 D I P673563 F673564 qo673576 q673617 qs673567 qb673568 bs673569 p673618 p673619 xt673584.2 xt673584.1 hm673620 hm673622 he673621 he673623 hbs673569 nbs673569 lbs673569 bp673619 bq673617 (by have qa0 : Int32.toInt 0 = 0 := (by decide); omega)) dr_cX14_is_21 ⟨wr_9_145, wr_1_21, wr_9_148, by decide, rfl, (Nat.le_of_ble_eq_true rfl), (Nat.le_of_ble_eq_true rfl)⟩ wr_9_146 wr_9_147 hm673620 he673621 rfl (show 0 + 0 ≤ 0 by first | omega | decide) (show 0 + 0 ≤ 0 by first | omega | decide) (Nat.le_of_ble_eq_true rfl) (fun r673630 w673631 dc673627 ds673628 hp673629 => ?_) (fun _ _ _ _ _ z => z.elim)
      rcases hp673629 with ⟨o673632, rfl, rfl, hdc, hds, r673633, r673634, r673635⟩ | ⟨o673636, rfl, rfl, hdc, hds, r673637, r673638, r673639⟩
      · change G _ _ _ _ _ _ _ (.int 0 :: _) _ _ _
        refine G_widen (cs' := 0) (sl' := 0) (by omega) (by omega) ?_
        refine G_if_eq 31 dr_cX14_is_24 (by decide +kernel) (fun _ => ?_) (fun hc => absurd hc (by decide))
        refine G_iconst 0 dr_cX14_is_31 (by decide +kernel) ?_
        exact G_zretA FieldType.boolean dr_cX14_is_32 rfl rfl (Nat.le_of_ble_eq_true rfl) (Nat.le_of_ble_eq_true rfl) ⟨0, rfl, rfl, (Nat.le_of_ble_eq_true rfl), (Nat.le_of_ble_eq_true rfl), (gB_w (gBl (show Int32.toInt 0 = 0 by decide)) (by decide) (by decide)), (Or.inl (by decide)), (fun R c1 c2 c3 c4 c5 => c4 r673613 r673616 r673635)⟩
      · change G _ _ _ _ _ _ _ (.int 1 :: _) _ _ _
        refine G_widen (cs' := 0) (sl' := 0) (by omega) (by omega) ?_
        refine G_if_eq 31 dr_cX14_is_24 (by decide +kernel) (fun hc => absurd hc (by decide)) (fun _ => ?_)
        refine G_iconst 1 dr_cX14_is_27 (by decide +kernel) ?_
        refine G_goto 32 dr_cX14_is_28 (by decide +kernel) ?_
        exact G_zretA FieldType.boolean dr_cX14_is_32 rfl rfl (Nat.le_of_ble_eq_true rfl) (Nat.le_of_ble_eq_true rfl) ⟨1, rfl, rfl, (Nat.le_of_ble_eq_true rfl), (Nat.le_of_ble_eq_true rfl), (gB_w (gBl (show Int32.toInt 1 = 1 by decide)) (by decide) (by decide)), (Or.inr (by omega)), (fun R c1 c2 c3 c4 c5 => c5 r673613 r673616 r673639)⟩
/- tr_RReader_want: a.0...at, a.0...kind, a.0...place, a.0...value -/
def tr_RReader_want (bs : List Int32) (a0_n : Int32) (a0_at : Int32) (a0_kind : Int32) (a0_value : Int32) (a0_t_v : Nat → Int32) (xt : gTx) (o1 : Int32) (o2 : Int32) (o3 : Int32) (o4 : Int32) (o5 : gTx) : Prop := ∀ R : (Int32) → (Int32) → (Int32) → (Int32) → (gTx) → Prop,
  (∀ (x1 : Int32) (x2 : gTx) (x3 : Int32) (x4 : Int32) (x5 : Int32) (x6 : Int32), gB x1 0 1 → tr_RReader_is bs a0_kind xt x1 → x1.toInt ≠ 0 → gB x3 0 8192 → gB x4 0 6 → gB x5 0 8192 → tr_RReader_next a0_n a0_at a0_kind a0_value a0_t_v x3 x4 x5 x6 x2 → R x3 x4 x5 x6 x2) →
  R o1 o2 o3 o4 o5
/- tx_RReader_want: throws -/
def tx_RReader_want (bs : List Int32) (a0_kind : Int32) (xt : gTx) : Prop := ∀ R : Prop,
  (∀ (x1 : Int32), gB x1 0 1 → tr_RReader_is bs a0_kind xt x1 → x1.toInt = 0 → R) →
  R
abbrev ky_673668_Reader_want : gKey := (cX14_want, 2, "SpillForgeModel$Reader", none, [], "want", fun _ _ => True)
def pp_673668_Reader_want (D : va_G) (I : FieldType → ClassId) (P673642 : List Nat) (F673643 : Nat → va_E) (q673644 : Nat) (q673645 : Nat) (qs673646 : Nat) (qb673647 : Nat) (bs673648 : List Int32) (p673649 : Int32) (p673650 : Int32) (p673651 : Int32) (p673652 : Int32) (p673653 : Int32) (p673654 : Int32) (qo673655 : Nat) (p673656 : Int32) (p673657 : Int32) (p673658 : Int32) (qo673659 : Nat) (qo673660 : Nat) (p673661 : Int32) (f673662 : Nat → Int32) (xt673663 : gTx) : Option Value → va_W → Nat → Nat → Prop := fun r w dc ds => ∃ (P673733 : List Nat) (F673734 : Nat → va_E) (o673728 : Int32) (o673729 : Int32) (o673730 : Int32) (o673731 : Int32) (q673732 : Nat) (xt673735 : gTx), r = none ∧ w = va_pl P673733 F673734 ∧ rSub P673642 P673733 ∧ rFr [q673644] P673642 F673643 F673734 ∧ F673734 q673644 = .inr (19, [.ref q673645, .int p673649, .int o673728, .int o673729, .int o673730, .int o673731, .int p673651, .ref q673732, .int p673656, .int p673657, .int p673658, .ref qo673659, .ref qo673660, .int p673661]) ∧ F673734 q673645 = .inl (I .byte, 8192, .inl f673662) ∧ dc ≤ (16 * (o673728.toInt - p673650.toInt)).toNat ∧ ds ≤ (160 * (o673728.toInt - p673650.toInt)).toNat ∧ gB o673728 0 8192 ∧ gB o673729 0 6 ∧ gB o673730 0 8192 ∧ p673650.toInt ≤ o673728.toInt ∧ prP o673729 p673650 o673728 ∧ o673728.toInt ≤ p673649.toInt ∧ tP I P673733 F673734 o673729 q673732 qo673660 qo673659 xt673735 ∧ vP o673729 o673731 ∧ nzK p673651 ∧ tr_RReader_want bs673648 p673649 p673650 p673651 p673653 f673662 xt673663 o673728 o673729 o673730 o673731 xt673735
def xp_673668_Reader_want (D : va_G) (I : FieldType → ClassId) (P673642 : List Nat) (F673643 : Nat → va_E) (q673644 : Nat) (q673645 : Nat) (qs673646 : Nat) (qb673647 : Nat) (bs673648 : List Int32) (p673649 : Int32) (p673650 : Int32) (p673651 : Int32) (p673652 : Int32) (p673653 : Int32) (p673654 : Int32) (qo673655 : Nat) (p673656 : Int32) (p673657 : Int32) (p673658 : Int32) (qo673659 : Nat) (qo673660 : Nat) (p673661 : Int32) (f673662 : Nat → Int32) (xt673663 : gTx) : String → Nat → va_W → Nat → Nat → Prop := fun E q w dc ds => ∃ (P673737 : List Nat) (F673736 : Nat → va_E), E = "SpillForgeModel$Wrong" ∧ w = va_pl P673737 F673736 ∧ rSub P673642 P673737 ∧ rFr [] P673642 F673643 F673736 ∧ q ∈ P673737 ∧ q ∉ P673642 ∧ wrF F673736 q ∧ dc ≤ (16 * (p673649.toInt - p673650.toInt)).toNat + 1 ∧ ds ≤ (160 * (p673649.toInt - p673650.toInt)).toNat + 7 ∧ tx_RReader_want bs673648 p673651 xt673663
set_option maxRecDepth 100000 in
set_option maxHeartbeats 4000000 in
theorem cp_673668_Reader_want (l : Launch) (hl0 : l.stackTraces = false) (D : va_G) (I : FieldType → ClassId) (P673642 : List Nat) (F673643 : Nat → va_E) (q673644 : Nat) (q673645 : Nat) (qs673646 : Nat) (qb673647 : Nat) (bs673648 : List Int32) (p673649 : Int32) (p673650 : Int32) (p673651 : Int32) (p673652 : Int32) (p673653 : Int32) (p673654 : Int32) (qo673655 : Nat) (p673656 : Int32) (p673657 : Int32) (p673658 : Int32) (qo673659 : Nat) (qo673660 : Nat) (p673661 : Int32) (f673662 : Nat → Int32) (xt673663 : gTx) (hmq673644 : q673644 ∈ P673642) (hmq673645 : q673645 ∈ P673642) (heq673644 : F673643 q673644 = .inr (19, [.ref q673645, .int p673649, .int p673650, .int p673651, .int p673652, .int p673653, .int p673654, .ref qo673655, .int p673656, .int p673657, .int p673658, .ref qo673659, .ref qo673660, .int p673661])) (heq673645 : F673643 q673645 = .inl (I .byte, 8192, .inl f673662)) (hbs673648 : ∀ A s H, (gV D I).2.2.2.1 A s H → gSC qs673646 qb673647 bs673648 A s H) (nbs673648 : (bs673648.length : Int) ≤ 65535) (lbs673648 : gLB bs673648) (bp673649 : gB p673649 0 8192) (bp673650 : gB p673650 0 8192) (bp673651 : gB p673651 0 6) (bp673652 : gB p673652 0 8192) (bp673654 : gB p673654 0 6) (bp673656 : gB p673656 (-1) 8192) (bp673657 : gB p673657 0 4) (bp673658 : gB p673658 0 1000000) (bp673661 : gB p673661 0 1000000) (bf673662 : gF f673662 (-128) 127) (x673664 : p673650.toInt ≤ p673649.toInt) (x673665 : qo673660 ∈ P673642) (x673666 : qo673659 ∈ P673642) (x673667 : tP I P673642 F673643 p673651 qo673655 qo673660 qo673659 xt673663) : CtA (gV D I) l yX14_want cX14_want 2 none 8 177 ((16 * (p673649.toInt - p673650.toInt)).toNat + 1) ((160 * (p673649.toInt - p673650.toInt)).toNat + 7) [.ref q673644, .ref qs673646] (va_pl P673642 F673643) (pp_673668_Reader_want D I P673642 F673643 q673644 q673645 qs673646 qb673647 bs673648 p673649 p673650 p673651 p673652 p673653 p673654 qo673655 p673656 p673657 p673658 qo673659 qo673660 p673661 f673662 xt673663) (xp_673668_Reader_want D I P673642 F673643 q673644 q673645 qs673646 qb673647 bs673648 p673649 p673650 p673651 p673652 p673653 p673654 qo673655 p673656 p673657 p673658 qo673659 qo673660 p673661 f673662 xt673663) := by
  refine CtA_of hl0 (by decide) (Nat.le_of_ble_eq_true rfl) ?_
  have bp673653 := gB_any p673653
  refine G_aload_n 0 dr_cX14_want_0 rfl ?_
  refine G_aload_n 1 dr_cX14_want_1 rfl ?_
  refine Gw_callV (As := [.ref qs673646]) (gV_ok D I) (cp_673586_Reader_is l hl0 D I P673642 F673643 q673644 q673645 qs673646 qb673647 bs673648 p673649 p673650 p673651 p673652 p673653 p673654 qo673655 p673656 p673657 p673658 qo673659 qo673660 p673661 f673662 xt673663 hmq673644 hmq673645 heq673644 heq673645 hbs673648 nbs673648 lbs673648 bp673649 bp673650 bp673651 bp673652 bp673654 bp673656 bp673657 bp673658 bp673661 bf673662 x673667) dr_cX14_want_2 ⟨wr_9_141, wr_1_32, wr_9_144, by decide, rfl, (Nat.le_of_ble_eq_true rfl), (Nat.le_of_ble_eq_true rfl)⟩ wr_9_143 wr_p_84 hmq673644 heq673644 rfl (show 0 + 0 ≤ ((16 * (p673649.toInt - p673650.toInt)).toNat + 1) by first | omega | decide) (show 0 + 0 ≤ ((160 * (p673649.toInt - p673650.toInt)).toNat + 7) by first | omega | decide) (Nat.le_of_ble_eq_true rfl) (fun r673672 w673673 dc673669 ds673670 hp673671 => ?_) (fun _ _ _ _ _ z => z.elim)
  obtain ⟨o673674, rfl, rfl, hdc, hds, bo673674, x673675, ht673676⟩ := hp673671
  change G _ _ _ _ _ _ _ (.int o673674 :: _) _ _ _
  refine G_widen (cs' := 0) (sl' := 0) (by omega) (by omega) ?_
  refine G_if_ne 13 dr_cX14_want_5 (by decide +kernel) (fun hc673677 => ?_) (fun hc673677 => ?_)
  · have r673678 : o673674.toInt ≠ 0 := gj_neq hc673677 (show Int32.toInt 0 = 0 by decide)
    have bo673674' : gB o673674 1 1 := ⟨by omega, by omega⟩
    refine G_aload_n 0 dr_cX14_want_13 rfl ?_
    refine Gw_callV (As := []) (gV_ok D I) (cp_671599_Reader_next l hl0 D I P673642 F673643 q673644 q673645 p673649 p673650 p673651 p673652 p673653 p673654 qo673655 p673656 p673657 p673658 qo673659 qo673660 p673661 f673662 hmq673644 hmq673645 heq673644 heq673645 bp673649 bp673650 bp673651 bp673652 bp673654 bp673656 bp673657 bp673658 bp673661 bf673662 (by omega) x673665 x673666) dr_cX14_want_14 ⟨wr_7_215, wr_1_32, wr_7_218, by decide, rfl, (Nat.le_of_ble_eq_true rfl), (Nat.le_of_ble_eq_true rfl)⟩ wr_7_217 wr_p_75 hmq673644 heq673644 rfl (show 0 + ((16 * (p673649.toInt - p673650.toInt)).toNat) ≤ ((16 * (p673649.toInt - p673650.toInt)).toNat + 1) by first | omega | decide) (show 0 + ((160 * (p673649.toInt - p673650.toInt)).toNat) ≤ ((160 * (p673649.toInt - p673650.toInt)).toNat + 7) by first | omega | decide) (Nat.le_of_ble_eq_true rfl) (fun r673682 w673683 dc673679 ds673680 hp673681 => ?_) (fun _ _ _ _ _ z => z.elim)
    obtain ⟨P673696, F673697, o673684, o673685, o673686, o673687, q673688, xt673695, rfl, rfl, hsb673698, hfr673699, he673700, he673701, hdc, hds, bo673684, bo673685, bo673686, x673689, x673690, x673691, x673692, x673693, ht673694⟩ := hp673681
    have hm673702 : q673644 ∈ P673696 := hsb673698 q673644 hmq673644
    have hm673703 : q673645 ∈ P673696 := hsb673698 q673645 hmq673645
    have hsb673704 : rSub P673642 P673696 := rSub_tr (rSub_rf (P := P673642)) hsb673698
    have hfr673705 : rFr [q673644] P673642 F673643 F673697 := rFr_call (rSub_rf (P := P673642)) (rFr_rf (W := []) (P := P673642) (F := F673643)) hfr673699 (fun b hb hn => ⟨nm_n, (nm_c (fun e => hn (e ▸ List.mem_cons_self)) nm_n)⟩)
    have bo673687 := gB_any o673687
    change G _ _ _ _ _ _ _ _ _ _ _
    refine G_widen (cs' := (16 * (o673684.toInt - p673650.toInt)).toNat) (sl' := (160 * (o673684.toInt - p673650.toInt)).toNat) (by omega) (by omega) ?_
    exact G_vretA dr_cX14_want_17 rfl (show (16 * (o673684.toInt - p673650.toInt)).toNat ≤ ((16 * (p673649.toInt - p673650.toInt)).toNat + 1) by omega) (show (160 * (o673684.toInt - p673650.toInt)).toNat ≤ ((160 * (p673649.toInt - p673650.toInt)).toNat + 7) by omega) ⟨P673696, F673697, o673684, o673685, o673686, o673687, q673688, xt673695, rfl, rfl, hsb673704, hfr673705, he673700, he673701, (by omega), (by omega), bo673684, bo673685, bo673686, (by omega), x673690, (by omega), x673692, x673693, (isK_1 x673675 (by omega)), (fun R c1 => c1 o673674 xt673695 o673684 o673685 o673686 o673687 bo673674 ht673676 r673678 bo673684 bo673685 bo673686 ht673694)⟩
  · have r673706 : o673674.toInt = 0 := gj_eq hc673677 (show Int32.toInt 0 = 0 by decide)
    have bo673674' : gB o673674 0 0 := ⟨by omega, by omega⟩
    refine G_aload_n 0 dr_cX14_want_8 rfl ?_
    refine Gw_callV (As := []) (gV_ok D I) (cp_673339_Reader_no l hl0 D I P673642 F673643 q673644 q673645 p673649 p673650 p673651 p673652 p673653 p673654 qo673655 p673656 p673657 p673658 qo673659 qo673660 p673661 f673662 hmq673644 hmq673645 heq673644 heq673645 bp673649 bp673650 bp673651 bp673652 bp673654 bp673656 bp673657 bp673658 bp673661 bf673662) dr_cX14_want_9 ⟨wr_9_97, wr_1_32, wr_9_100, by decide, rfl, (Nat.le_of_ble_eq_true rfl), (Nat.le_of_ble_eq_true rfl)⟩ wr_9_99 wr_p_81 hmq673644 heq673644 rfl (show 0 + 1 ≤ ((16 * (p673649.toInt - p673650.toInt)).toNat + 1) by first | omega | decide) (show 0 + 7 ≤ ((160 * (p673649.toInt - p673650.toInt)).toNat + 7) by first | omega | decide) (Nat.le_of_ble_eq_true rfl) (fun r673710 w673711 dc673707 ds673708 hp673709 => ?_) (fun _ _ _ _ _ z => z.elim)
    obtain ⟨P673713, F673714, q673712, rfl, rfl, hsb673715, hfr673716, he673717, he673718, he673719, hm673720, hq673721, hdc, hds⟩ := hp673709
    have hm673722 : q673644 ∈ P673713 := hsb673715 q673644 hmq673644
    have hm673723 : q673645 ∈ P673713 := hsb673715 q673645 hmq673645
    have hq673724 : q673712 ∉ P673642 := fun z => hq673721 ((rSub_rf (P := P673642)) q673712 z)
    have hsb673725 : rSub P673642 P673713 := rSub_tr (rSub_rf (P := P673642)) hsb673715
    have hfr673726 : rFr [] P673642 F673643 F673714 := rFr_call (rSub_rf (P := P673642)) (rFr_rf (W := []) (P := P673642) (F := F673643)) hfr673716 (fun b hb hn => ⟨nm_n, nm_n⟩)
    have tp673727 : tP I P673713 F673714 p673651 qo673655 qo673660 qo673659 xt673663 := tP_new x673667 hsb673715 (fun b hb => hfr673716 b hb (fun z => by cases z)) (Or.inl rfl) (Or.inl rfl)
    change G _ _ _ _ _ _ _ (.ref q673712 :: _) _ _ _
    refine G_widen (cs' := 1) (sl' := 7) (by omega) (by omega) ?_
    exact Gp_athrow hm673720 he673719 rfl dr_cX14_want_12 (GT_outA rfl (show 1 ≤ ((16 * (p673649.toInt - p673650.toInt)).toNat + 1) by omega) (show 7 ≤ ((160 * (p673649.toInt - p673650.toInt)).toNat + 7) by omega) ⟨P673713, F673714, rfl, rfl, hsb673725, hfr673726, hm673720, hq673724, ⟨_, _, _, _, _, _, _, he673719, by omega⟩, (by omega), (by omega), (fun R c1 => c1 o673674 bo673674 ht673676 r673706)⟩)
/- tr_RReader_want2: a.0...at, a.0...kind, a.0...place, a.0...value -/
def tr_RReader_want2 (a1 : Int32) (a0_n : Int32) (a0_at : Int32) (a0_kind : Int32) (a0_value : Int32) (a0_t_v : Nat → Int32) (o1 : Int32) (o2 : Int32) (o3 : Int32) (o4 : Int32) (o5 : gTx) : Prop := ∀ R : (Int32) → (Int32) → (Int32) → (Int32) → (gTx) → Prop,
  (∀ (x1 : gTx) (x2 : Int32) (x3 : Int32) (x4 : Int32) (x5 : Int32), a0_kind.toInt = a1.toInt → gB x2 0 8192 → gB x3 0 6 → gB x4 0 8192 → tr_RReader_next a0_n a0_at a0_kind a0_value a0_t_v x2 x3 x4 x5 x1 → R x2 x3 x4 x5 x1) →
  R o1 o2 o3 o4 o5
/- tx_RReader_want2: throws -/
def tx_RReader_want2 (a1 : Int32) (a0_kind : Int32) : Prop := ∀ R : Prop,
  (a0_kind.toInt ≠ a1.toInt → R) →
  R
abbrev ky_673763_Reader_want : gKey := (cX14_want_, 3, "SpillForgeModel$Reader", (some FieldType.int), [], "want", fun _ _ => True)
def pp_673763_Reader_want (D : va_G) (I : FieldType → ClassId) (P673738 : List Nat) (F673739 : Nat → va_E) (q673740 : Nat) (q673741 : Nat) (p673742 : Int32) (p673743 : Int32) (p673744 : Int32) (p673745 : Int32) (p673746 : Int32) (p673747 : Int32) (p673748 : Int32) (qo673749 : Nat) (p673750 : Int32) (p673751 : Int32) (p673752 : Int32) (qo673753 : Nat) (qo673754 : Nat) (p673755 : Int32) (f673756 : Nat → Int32) (xt673757 : gTx) : Option Value → va_W → Nat → Nat → Prop := fun r w dc ds => ∃ (P673820 : List Nat) (F673821 : Nat → va_E) (o673815 : Int32) (o673816 : Int32) (o673817 : Int32) (o673818 : Int32) (q673819 : Nat) (xt673822 : gTx), r = some (.int p673747) ∧ w = va_pl P673820 F673821 ∧ rSub P673738 P673820 ∧ rFr [q673740] P673738 F673739 F673821 ∧ F673821 q673740 = .inr (19, [.ref q673741, .int p673743, .int o673815, .int o673816, .int o673817, .int o673818, .int p673745, .ref q673819, .int p673750, .int p673751, .int p673752, .ref qo673753, .ref qo673754, .int p673755]) ∧ F673821 q673741 = .inl (I .byte, 8192, .inl f673756) ∧ dc ≤ (16 * (o673815.toInt - p673744.toInt)).toNat ∧ ds ≤ (160 * (o673815.toInt - p673744.toInt)).toNat ∧ gB o673815 0 8192 ∧ gB o673816 0 6 ∧ gB o673817 0 8192 ∧ p673744.toInt ≤ o673815.toInt ∧ prP o673816 p673744 o673815 ∧ o673815.toInt ≤ p673743.toInt ∧ tP I P673820 F673821 o673816 q673819 qo673754 qo673753 xt673822 ∧ vP o673816 o673818 ∧ vP p673742 p673747 ∧ p673745.toInt = p673742.toInt ∧ tr_RReader_want2 p673742 p673743 p673744 p673745 p673747 f673756 o673815 o673816 o673817 o673818 xt673822
def xp_673763_Reader_want (D : va_G) (I : FieldType → ClassId) (P673738 : List Nat) (F673739 : Nat → va_E) (q673740 : Nat) (q673741 : Nat) (p673742 : Int32) (p673743 : Int32) (p673744 : Int32) (p673745 : Int32) (p673746 : Int32) (p673747 : Int32) (p673748 : Int32) (qo673749 : Nat) (p673750 : Int32) (p673751 : Int32) (p673752 : Int32) (qo673753 : Nat) (qo673754 : Nat) (p673755 : Int32) (f673756 : Nat → Int32) (xt673757 : gTx) : String → Nat → va_W → Nat → Nat → Prop := fun E q w dc ds => ∃ (P673824 : List Nat) (F673823 : Nat → va_E), E = "SpillForgeModel$Wrong" ∧ w = va_pl P673824 F673823 ∧ rSub P673738 P673824 ∧ rFr [] P673738 F673739 F673823 ∧ q ∈ P673824 ∧ q ∉ P673738 ∧ wrF F673823 q ∧ dc ≤ (16 * (p673743.toInt - p673744.toInt)).toNat + 1 ∧ ds ≤ (160 * (p673743.toInt - p673744.toInt)).toNat + 7 ∧ tx_RReader_want2 p673742 p673745
set_option maxRecDepth 100000 in
set_option maxHeartbeats 4000000 in
theorem cp_673763_Reader_want (l : Launch) (hl0 : l.stackTraces = false) (D : va_G) (I : FieldType → ClassId) (P673738 : List Nat) (F673739 : Nat → va_E) (q673740 : Nat) (q673741 : Nat) (p673742 : Int32) (p673743 : Int32) (p673744 : Int32) (p673745 : Int32) (p673746 : Int32) (p673747 : Int32) (p673748 : Int32) (qo673749 : Nat) (p673750 : Int32) (p673751 : Int32) (p673752 : Int32) (qo673753 : Nat) (qo673754 : Nat) (p673755 : Int32) (f673756 : Nat → Int32) (xt673757 : gTx) (hmq673740 : q673740 ∈ P673738) (hmq673741 : q673741 ∈ P673738) (heq673740 : F673739 q673740 = .inr (19, [.ref q673741, .int p673743, .int p673744, .int p673745, .int p673746, .int p673747, .int p673748, .ref qo673749, .int p673750, .int p673751, .int p673752, .ref qo673753, .ref qo673754, .int p673755])) (heq673741 : F673739 q673741 = .inl (I .byte, 8192, .inl f673756)) (bp673742 : gB p673742 0 6) (bp673743 : gB p673743 0 8192) (bp673744 : gB p673744 0 8192) (bp673745 : gB p673745 0 6) (bp673746 : gB p673746 0 8192) (bp673748 : gB p673748 0 6) (bp673750 : gB p673750 (-1) 8192) (bp673751 : gB p673751 0 4) (bp673752 : gB p673752 0 1000000) (bp673755 : gB p673755 0 1000000) (bf673756 : gF f673756 (-128) 127) (x673758 : p673744.toInt ≤ p673743.toInt) (x673759 : qo673754 ∈ P673738) (x673760 : qo673753 ∈ P673738) (x673761 : tP I P673738 F673739 p673745 qo673749 qo673754 qo673753 xt673757) (x673762 : vP p673745 p673747) : CtA (gV D I) l yX14_want_ cX14_want_ 3 (some FieldType.int) 8 177 ((16 * (p673743.toInt - p673744.toInt)).toNat + 1) ((160 * (p673743.toInt - p673744.toInt)).toNat + 7) [.ref q673740, .int p673742] (va_pl P673738 F673739) (pp_673763_Reader_want D I P673738 F673739 q673740 q673741 p673742 p673743 p673744 p673745 p673746 p673747 p673748 qo673749 p673750 p673751 p673752 qo673753 qo673754 p673755 f673756 xt673757) (xp_673763_Reader_want D I P673738 F673739 q673740 q673741 p673742 p673743 p673744 p673745 p673746 p673747 p673748 qo673749 p673750 p673751 p673752 qo673753 qo673754 p673755 f673756 xt673757) := by
  refine CtA_of hl0 (by decide) (Nat.le_of_ble_eq_true rfl) ?_
  have bp673747 := gB_any p673747
  refine G_aload_n 0 dr_cX14_want__0 rfl ?_
  refine Gp_get 3 hmq673740 heq673740 dr_cX14_want__1 (gk_X14 D I) (Nat.le_of_ble_eq_true rfl) wr_9_39 rfl ?_
  refine G_iload_n 1 dr_cX14_want__4 rfl ?_
  refine G_icmp_eq 13 dr_cX14_want__5 (by decide +kernel) (fun hc673764 => ?_) (fun hc673764 => ?_)
  · have r673765 : p673745.toInt = p673742.toInt := gC_eq hc673764
    refine G_aload_n 0 dr_cX14_want__13 rfl ?_
    refine Gp_get 5 hmq673740 heq673740 dr_cX14_want__14 (gk_X14 D I) (Nat.le_of_ble_eq_true rfl) wr_9_41 rfl ?_
    refine G_istore_n (L' := [(2, .int p673747), (0, .ref q673740), (1, .int p673742)]) dr_cX14_want__17 (Nat.le_of_ble_eq_true rfl) rfl ?_
    refine G_aload_n 1 dr_cX14_want__18 rfl ?_
    refine Gw_callV (As := []) (gV_ok D I) (cp_671599_Reader_next l hl0 D I P673738 F673739 q673740 q673741 p673743 p673744 p673745 p673746 p673747 p673748 qo673749 p673750 p673751 p673752 qo673753 qo673754 p673755 f673756 hmq673740 hmq673741 heq673740 heq673741 bp673743 bp673744 bp673745 bp673746 bp673748 bp673750 bp673751 bp673752 bp673755 bf673756 (by omega) x673759 x673760) dr_cX14_want__19 ⟨wr_7_215, wr_1_32, wr_7_218, by decide, rfl, (Nat.le_of_ble_eq_true rfl), (Nat.le_of_ble_eq_true rfl)⟩ wr_7_217 wr_p_75 hmq673740 heq673740 rfl (show 0 + ((16 * (p673743.toInt - p673744.toInt)).toNat) ≤ ((16 * (p673743.toInt - p673744.toInt)).toNat + 1) by first | omega | decide) (show 0 + ((160 * (p673743.toInt - p673744.toInt)).toNat) ≤ ((160 * (p673743.toInt - p673744.toInt)).toNat + 7) by first | omega | decide) (Nat.le_of_ble_eq_true rfl) (fun r673769 w673770 dc673766 ds673767 hp673768 => ?_) (fun _ _ _ _ _ z => z.elim)
    obtain ⟨P673783, F673784, o673771, o673772, o673773, o673774, q673775, xt673782, rfl, rfl, hsb673785, hfr673786, he673787, he673788, hdc, hds, bo673771, bo673772, bo673773, x673776, x673777, x673778, x673779, x673780, ht673781⟩ := hp673768
    have hm673789 : q673740 ∈ P673783 := hsb673785 q673740 hmq673740
    have hm673790 : q673741 ∈ P673783 := hsb673785 q673741 hmq673741
    have hsb673791 : rSub P673738 P673783 := rSub_tr (rSub_rf (P := P673738)) hsb673785
    have hfr673792 : rFr [q673740] P673738 F673739 F673784 := rFr_call (rSub_rf (P := P673738)) (rFr_rf (W := []) (P := P673738) (F := F673739)) hfr673786 (fun b hb hn => ⟨nm_n, (nm_c (fun e => hn (e ▸ List.mem_cons_self)) nm_n)⟩)
    have bo673774 := gB_any o673774
    change G _ _ _ _ _ _ _ _ _ _ _
    refine G_widen (cs' := (16 * (o673771.toInt - p673744.toInt)).toNat) (sl' := (160 * (o673771.toInt - p673744.toInt)).toNat) (by omega) (by omega) ?_
    refine G_iload_n 0 dr_cX14_want__22 rfl ?_
    exact G_iretA dr_cX14_want__23 rfl (show (16 * (o673771.toInt - p673744.toInt)).toNat ≤ ((16 * (p673743.toInt - p673744.toInt)).toNat + 1) by omega) (show (160 * (o673771.toInt - p673744.toInt)).toNat ≤ ((160 * (p673743.toInt - p673744.toInt)).toNat + 7) by omega) ⟨P673783, F673784, o673771, o673772, o673773, o673774, q673775, xt673782, rfl, rfl, hsb673791, hfr673792, he673787, he673788, (by omega), (by omega), bo673771, bo673772, bo673773, (by omega), x673777, (by omega), x673779, x673780, (vP_eq x673762 (by omega)), (by omega), (fun R c1 => c1 xt673782 o673771 o673772 o673773 o673774 r673765 bo673771 bo673772 bo673773 ht673781)⟩
  · have r673793 : p673745.toInt ≠ p673742.toInt := gC_ne hc673764
    refine G_aload_n 0 dr_cX14_want__8 rfl ?_
    refine Gw_callV (As := []) (gV_ok D I) (cp_673339_Reader_no l hl0 D I P673738 F673739 q673740 q673741 p673743 p673744 p673745 p673746 p673747 p673748 qo673749 p673750 p673751 p673752 qo673753 qo673754 p673755 f673756 hmq673740 hmq673741 heq673740 heq673741 bp673743 bp673744 bp673745 bp673746 bp673748 bp673750 bp673751 bp673752 bp673755 bf673756) dr_cX14_want__9 ⟨wr_9_97, wr_1_32, wr_9_100, by decide, rfl, (Nat.le_of_ble_eq_true rfl), (Nat.le_of_ble_eq_true rfl)⟩ wr_9_99 wr_p_81 hmq673740 heq673740 rfl (show 0 + 1 ≤ ((16 * (p673743.toInt - p673744.toInt)).toNat + 1) by first | omega | decide) (show 0 + 7 ≤ ((160 * (p673743.toInt - p673744.toInt)).toNat + 7) by first | omega | decide) (Nat.le_of_ble_eq_true rfl) (fun r673797 w673798 dc673794 ds673795 hp673796 => ?_) (fun _ _ _ _ _ z => z.elim)
    obtain ⟨P673800, F673801, q673799, rfl, rfl, hsb673802, hfr673803, he673804, he673805, he673806, hm673807, hq673808, hdc, hds⟩ := hp673796
    have hm673809 : q673740 ∈ P673800 := hsb673802 q673740 hmq673740
    have hm673810 : q673741 ∈ P673800 := hsb673802 q673741 hmq673741
    have hq673811 : q673799 ∉ P673738 := fun z => hq673808 ((rSub_rf (P := P673738)) q673799 z)
    have hsb673812 : rSub P673738 P673800 := rSub_tr (rSub_rf (P := P673738)) hsb673802
    have hfr673813 : rFr [] P673738 F673739 F673801 := rFr_call (rSub_rf (P := P673738)) (rFr_rf (W := []) (P := P673738) (F := F673739)) hfr673803 (fun b hb hn => ⟨nm_n, nm_n⟩)
    have tp673814 : tP I P673800 F673801 p673745 qo673749 qo673754 qo673753 xt673757 := tP_new x673761 hsb673802 (fun b hb => hfr673803 b hb (fun z => by cases z)) (Or.inl rfl) (Or.inl rfl)
    change G _ _ _ _ _ _ _ (.ref q673799 :: _) _ _ _
    refine G_widen (cs' := 1) (sl' := 7) (by omega) (by omega) ?_
    exact Gp_athrow hm673807 he673806 rfl dr_cX14_want__12 (GT_outA rfl (show 1 ≤ ((16 * (p673743.toInt - p673744.toInt)).toNat + 1) by omega) (show 7 ≤ ((160 * (p673743.toInt - p673744.toInt)).toNat + 7) by omega) ⟨P673800, F673801, rfl, rfl, hsb673812, hfr673813, hm673807, hq673811, ⟨_, _, _, _, _, _, _, he673806, by omega⟩, (by omega), (by omega), (fun R c1 => c1 r673793)⟩)
/- tr_RReader_breaks: a.0...rulePlace, a.0...rule -/
def tr_RReader_breaks (a1 : Int32) (a2 : Int32) (a0_rulePlace : Int32) (a0_rule : Int32) (o1 : Int32) (o2 : Int32) : Prop := ∀ R : (Int32) → (Int32) → Prop,
  (a0_rulePlace.toInt < 0 → R a2 a1) →
  (0 ≤ a0_rulePlace.toInt → a2.toInt < a0_rulePlace.toInt → R a2 a1) →
  (0 ≤ a0_rulePlace.toInt → a0_rulePlace.toInt ≤ a2.toInt → a2.toInt ≠ a0_rulePlace.toInt → R a0_rulePlace a0_rule) →
  (0 ≤ a0_rulePlace.toInt → a0_rulePlace.toInt ≤ a2.toInt → a2.toInt = a0_rulePlace.toInt → a0_rule.toInt ≤ a1.toInt → R a0_rulePlace a0_rule) →
  (0 ≤ a0_rulePlace.toInt → a0_rulePlace.toInt ≤ a2.toInt → a2.toInt = a0_rulePlace.toInt → a1.toInt < a0_rule.toInt → R a2 a1) →
  R o1 o2
