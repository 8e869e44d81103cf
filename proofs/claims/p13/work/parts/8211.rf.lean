theorem dr_cE_Throwable_init4_0 : decode cE_Throwable_init4 0 = .ok (.aload_n 0, 1) := by decide +kernel
theorem dr_cE_Throwable_init4_1 : decode cE_Throwable_init4 1 = .ok (.invokespecial 1, 3) := by decide +kernel
theorem wr_4_220 : (Jvm.Cond.methodLink "java/lang/Throwable" (1 : Nat) ({ cls := "java/lang/Object", name := "<init>", desc := "()V" } : Jvm.MethodName)) ∈ gw := gw_4 220 rfl rfl
theorem dr_cE_Throwable_init4_4 : decode cE_Throwable_init4 4 = .ok (.aload_n 0, 1) := by decide +kernel
theorem dr_cE_Throwable_init4_5 : decode cE_Throwable_init4 5 = .ok (.aload_n 0, 1) := by decide +kernel
theorem dr_cE_Throwable_init4_6 : decode cE_Throwable_init4 6 = .ok (.putfield 7, 3) := by decide +kernel
theorem wr_5_15 : (Jvm.Cond.fieldLink "java/lang/Throwable" (7 : Nat) "java/lang/Throwable" "cause" "Ljava/lang/Throwable;") ∈ gw := gw_5 15 rfl rfl
theorem dr_cE_Throwable_init4_9 : decode cE_Throwable_init4 9 = .ok (.aload_n 0, 1) := by decide +kernel
theorem dr_cE_Throwable_init4_10 : decode cE_Throwable_init4 10 = .ok (.getstatic 13, 3) := by decide +kernel
theorem wr_4_221 : (Jvm.Cond.fieldLink "java/lang/Throwable" (13 : Nat) "java/lang/Throwable" "UNASSIGNED_STACK" "[Ljava/lang/StackTraceElement;") ∈ gw := gw_4 221 rfl rfl
theorem dr_cE_Throwable_init4_13 : decode cE_Throwable_init4 13 = .ok (.putfield 17, 3) := by decide +kernel
theorem wr_5_16 : (Jvm.Cond.fieldLink "java/lang/Throwable" (17 : Nat) "java/lang/Throwable" "stackTrace" "[Ljava/lang/StackTraceElement;") ∈ gw := gw_5 16 rfl rfl
theorem dr_cE_Throwable_init4_16 : decode cE_Throwable_init4 16 = .ok (.aload_n 0, 1) := by decide +kernel
theorem dr_cE_Throwable_init4_17 : decode cE_Throwable_init4 17 = .ok (.getstatic 20, 3) := by decide +kernel
theorem wr_4_223 : (Jvm.Cond.fieldLink "java/lang/Throwable" (20 : Nat) "java/lang/Throwable" "SUPPRESSED_SENTINEL" "Ljava/util/List;") ∈ gw := gw_4 223 rfl rfl
theorem dr_cE_Throwable_init4_20 : decode cE_Throwable_init4 20 = .ok (.putfield 24, 3) := by decide +kernel
theorem wr_5_17 : (Jvm.Cond.fieldLink "java/lang/Throwable" (24 : Nat) "java/lang/Throwable" "suppressedExceptions" "Ljava/util/List;") ∈ gw := gw_5 17 rfl rfl
theorem dr_cE_Throwable_init4_23 : decode cE_Throwable_init4 23 = .ok (.iload 4, 2) := by decide +kernel
theorem dr_cE_Throwable_init4_25 : decode cE_Throwable_init4 25 = .ok (.ifCond .eq 11, 3) := by decide +kernel
theorem dr_cE_Throwable_init4_36 : decode cE_Throwable_init4 36 = .ok (.aload_n 0, 1) := by decide +kernel
theorem dr_cE_Throwable_init4_37 : decode cE_Throwable_init4 37 = .ok (.aconst_null, 1) := by decide +kernel
theorem dr_cE_Throwable_init4_38 : decode cE_Throwable_init4 38 = .ok (.putfield 17, 3) := by decide +kernel
theorem dr_cE_Throwable_init4_41 : decode cE_Throwable_init4 41 = .ok (.aload_n 0, 1) := by decide +kernel
theorem dr_cE_Throwable_init4_42 : decode cE_Throwable_init4 42 = .ok (.aload_n 1, 1) := by decide +kernel
theorem dr_cE_Throwable_init4_43 : decode cE_Throwable_init4 43 = .ok (.putfield 31, 3) := by decide +kernel
theorem wr_5_14 : (Jvm.Cond.fieldLink "java/lang/Throwable" (31 : Nat) "java/lang/Throwable" "detailMessage" "Ljava/lang/String;") ∈ gw := gw_5 14 rfl rfl
theorem dr_cE_Throwable_init4_46 : decode cE_Throwable_init4 46 = .ok (.aload_n 0, 1) := by decide +kernel
theorem dr_cE_Throwable_init4_47 : decode cE_Throwable_init4 47 = .ok (.aload_n 2, 1) := by decide +kernel
theorem dr_cE_Throwable_init4_48 : decode cE_Throwable_init4 48 = .ok (.putfield 7, 3) := by decide +kernel
theorem dr_cE_Throwable_init4_51 : decode cE_Throwable_init4 51 = .ok (.iload_n 3, 1) := by decide +kernel
theorem dr_cE_Throwable_init4_52 : decode cE_Throwable_init4 52 = .ok (.ifCond .ne 8, 3) := by decide +kernel
theorem dr_cE_Throwable_init4_55 : decode cE_Throwable_init4 55 = .ok (.aload_n 0, 1) := by decide +kernel
theorem dr_cE_Throwable_init4_56 : decode cE_Throwable_init4 56 = .ok (.aconst_null, 1) := by decide +kernel
theorem dr_cE_Throwable_init4_57 : decode cE_Throwable_init4 57 = .ok (.putfield 24, 3) := by decide +kernel
theorem dr_cE_Throwable_init4_60 : decode cE_Throwable_init4 60 = .ok (.return_, 1) := by decide +kernel
theorem dr_cE_Exception_init4_0 : decode cE_Exception_init4 0 = .ok (.aload_n 0, 1) := by decide +kernel
theorem dr_cE_Exception_init4_1 : decode cE_Exception_init4 1 = .ok (.aload_n 1, 1) := by decide +kernel
theorem dr_cE_Exception_init4_2 : decode cE_Exception_init4 2 = .ok (.aload_n 2, 1) := by decide +kernel
theorem dr_cE_Exception_init4_3 : decode cE_Exception_init4 3 = .ok (.iload_n 3, 1) := by decide +kernel
theorem dr_cE_Exception_init4_4 : decode cE_Exception_init4 4 = .ok (.iload 4, 2) := by decide +kernel
theorem dr_cE_Exception_init4_6 : decode cE_Exception_init4 6 = .ok (.invokespecial 16, 3) := by decide +kernel
theorem wr_9_119 : (Jvm.Cond.methodLink "java/lang/Exception" (16 : Nat) ({ cls := "java/lang/Throwable", name := "<init>", desc := "(Ljava/lang/String;Ljava/lang/Throwable;ZZ)V" } : Jvm.MethodName)) ∈ gw := gw_9 119 rfl rfl
theorem wr_1_23 : (Jvm.Cond.initialized "java/lang/Throwable") ∈ gw := gw_1 23 rfl rfl
theorem wr_9_121 : (Jvm.Cond.code ({ cls := "java/lang/Throwable", name := "<init>", desc := "(Ljava/lang/String;Ljava/lang/Throwable;ZZ)V" } : Jvm.MethodName) prog_40_method_5_code (5 : Nat) (Option.none : Option Jvm.ClassFile.FieldType)) ∈ gw := gw_9 121 rfl rfl
theorem wr_9_120 : (Jvm.Cond.instanceMethod ({ cls := "java/lang/Throwable", name := "<init>", desc := "(Ljava/lang/String;Ljava/lang/Throwable;ZZ)V" } : Jvm.MethodName)) ∈ gw := gw_9 120 rfl rfl
theorem dr_cE_Exception_init4_9 : decode cE_Exception_init4 9 = .ok (.return_, 1) := by decide +kernel
theorem dr_cE_RuntimeException_init4_0 : decode cE_RuntimeException_init4 0 = .ok (.aload_n 0, 1) := by decide +kernel
theorem dr_cE_RuntimeException_init4_1 : decode cE_RuntimeException_init4 1 = .ok (.aload_n 1, 1) := by decide +kernel
theorem dr_cE_RuntimeException_init4_2 : decode cE_RuntimeException_init4 2 = .ok (.aload_n 2, 1) := by decide +kernel
theorem dr_cE_RuntimeException_init4_3 : decode cE_RuntimeException_init4 3 = .ok (.iload_n 3, 1) := by decide +kernel
theorem dr_cE_RuntimeException_init4_4 : decode cE_RuntimeException_init4 4 = .ok (.iload 4, 2) := by decide +kernel
theorem dr_cE_RuntimeException_init4_6 : decode cE_RuntimeException_init4 6 = .ok (.invokespecial 16, 3) := by decide +kernel
theorem wr_9_116 : (Jvm.Cond.methodLink "java/lang/RuntimeException" (16 : Nat) ({ cls := "java/lang/Exception", name := "<init>", desc := "(Ljava/lang/String;Ljava/lang/Throwable;ZZ)V" } : Jvm.MethodName)) ∈ gw := gw_9 116 rfl rfl
theorem wr_1_24 : (Jvm.Cond.initialized "java/lang/Exception") ∈ gw := gw_1 24 rfl rfl
theorem wr_9_118 : (Jvm.Cond.code ({ cls := "java/lang/Exception", name := "<init>", desc := "(Ljava/lang/String;Ljava/lang/Throwable;ZZ)V" } : Jvm.MethodName) prog_25_method_5_code (5 : Nat) (Option.none : Option Jvm.ClassFile.FieldType)) ∈ gw := gw_9 118 rfl rfl
theorem wr_9_117 : (Jvm.Cond.instanceMethod ({ cls := "java/lang/Exception", name := "<init>", desc := "(Ljava/lang/String;Ljava/lang/Throwable;ZZ)V" } : Jvm.MethodName)) ∈ gw := gw_9 117 rfl rfl
theorem dr_cE_RuntimeException_init4_9 : decode cE_RuntimeException_init4 9 = .ok (.return_, 1) := by decide +kernel
theorem dr_cX16_init_0 : decode cX16_init 0 = .ok (.aload_n 0, 1) := by decide +kernel
theorem dr_cX16_init_1 : decode cX16_init 1 = .ok (.aconst_null, 1) := by decide +kernel
theorem dr_cX16_init_2 : decode cX16_init 2 = .ok (.aconst_null, 1) := by decide +kernel
theorem dr_cX16_init_3 : decode cX16_init 3 = .ok (.iconst 0, 1) := by decide +kernel
theorem dr_cX16_init_4 : decode cX16_init 4 = .ok (.iconst 0, 1) := by decide +kernel
theorem dr_cX16_init_5 : decode cX16_init 5 = .ok (.invokespecial 1, 3) := by decide +kernel
theorem wr_9_113 : (Jvm.Cond.methodLink "SpillForgeModel$Wrong" (1 : Nat) ({ cls := "java/lang/RuntimeException", name := "<init>", desc := "(Ljava/lang/String;Ljava/lang/Throwable;ZZ)V" } : Jvm.MethodName)) ∈ gw := gw_9 113 rfl rfl
theorem wr_1_25 : (Jvm.Cond.initialized "java/lang/RuntimeException") ∈ gw := gw_1 25 rfl rfl
theorem wr_9_115 : (Jvm.Cond.code ({ cls := "java/lang/RuntimeException", name := "<init>", desc := "(Ljava/lang/String;Ljava/lang/Throwable;ZZ)V" } : Jvm.MethodName) prog_33_method_5_code (5 : Nat) (Option.none : Option Jvm.ClassFile.FieldType)) ∈ gw := gw_9 115 rfl rfl
theorem wr_9_114 : (Jvm.Cond.instanceMethod ({ cls := "java/lang/RuntimeException", name := "<init>", desc := "(Ljava/lang/String;Ljava/lang/Throwable;ZZ)V" } : Jvm.MethodName)) ∈ gw := gw_9 114 rfl rfl
theorem dr_cX16_init_8 : decode cX16_init 8 = .ok (.aload_n 0, 1) := by decide +kernel
theorem dr_cX16_init_9 : decode cX16_init 9 = .ok (.iload_n 1, 1) := by decide +kernel
theorem dr_cX16_init_10 : decode cX16_init 10 = .ok (.putfield 7, 3) := by decide +kernel
theorem wr_9_122 : (Jvm.Cond.fieldLink "SpillForgeModel$Wrong" (7 : Nat) "SpillForgeModel$Wrong" "place" "I") ∈ gw := gw_9 122 rfl rfl
theorem dr_cX16_init_13 : decode cX16_init 13 = .ok (.return_, 1) := by decide +kernel
theorem dr_cX14_no_0 : decode cX14_no 0 = .ok (.new 124, 3) := by decide +kernel
theorem wr_9_101 : (Jvm.Cond.classLink "SpillForgeModel$Reader" (124 : Nat) "SpillForgeModel$Wrong") ∈ gw := gw_9 101 rfl rfl
theorem wr_9_102 : (Jvm.Cond.instantiable "SpillForgeModel$Wrong" (7 : Nat)) ∈ gw := gw_9 102 rfl rfl
theorem wr_1_37 : (Jvm.Cond.initialized "SpillForgeModel$Wrong") ∈ gw := gw_1 37 rfl rfl
theorem dr_cX14_no_3 : decode cX14_no 3 = .ok (.dup, 1) := by decide +kernel
theorem dr_cX14_no_4 : decode cX14_no 4 = .ok (.aload_n 0, 1) := by decide +kernel
theorem dr_cX14_no_5 : decode cX14_no 5 = .ok (.getfield 47, 3) := by decide +kernel
theorem dr_cX14_no_8 : decode cX14_no 8 = .ok (.invokespecial 126, 3) := by decide +kernel
theorem wr_9_110 : (Jvm.Cond.methodLink "SpillForgeModel$Reader" (126 : Nat) ({ cls := "SpillForgeModel$Wrong", name := "<init>", desc := "(I)V" } : Jvm.MethodName)) ∈ gw := gw_9 110 rfl rfl
theorem wr_9_112 : (Jvm.Cond.code ({ cls := "SpillForgeModel$Wrong", name := "<init>", desc := "(I)V" } : Jvm.MethodName) prog_19_method_1_code (2 : Nat) (Option.none : Option Jvm.ClassFile.FieldType)) ∈ gw := gw_9 112 rfl rfl
theorem wr_9_111 : (Jvm.Cond.instanceMethod ({ cls := "SpillForgeModel$Wrong", name := "<init>", desc := "(I)V" } : Jvm.MethodName)) ∈ gw := gw_9 111 rfl rfl
theorem dr_cX14_no_11 : decode cX14_no 11 = .ok (.areturn, 1) := by decide +kernel
theorem dr_cX14_is_0 : decode cX14_is 0 = .ok (.aload_n 0, 1) := by decide +kernel
theorem dr_cX14_is_1 : decode cX14_is 1 = .ok (.getfield 38, 3) := by decide +kernel
theorem dr_cX14_is_4 : decode cX14_is 4 = .ok (.iconst 5, 1) := by decide +kernel
theorem dr_cX14_is_5 : decode cX14_is 5 = .ok (.if_icmp .eq 11, 3) := by decide +kernel
theorem dr_cX14_is_16 : decode cX14_is 16 = .ok (.aload_n 0, 1) := by decide +kernel
theorem dr_cX14_is_17 : decode cX14_is 17 = .ok (.getfield 11, 3) := by decide +kernel
theorem dr_cX14_is_20 : decode cX14_is 20 = .ok (.aload_n 1, 1) := by decide +kernel
theorem dr_cX14_is_21 : decode cX14_is 21 = .ok (.invokevirtual 128, 3) := by decide +kernel
theorem wr_9_145 : (Jvm.Cond.methodLink "SpillForgeModel$Reader" (128 : Nat) ({ cls := "java/lang/String", name := "equals", desc := "(Ljava/lang/Object;)Z" } : Jvm.MethodName)) ∈ gw := gw_9 145 rfl rfl
theorem wr_9_148 : (Jvm.Cond.code ({ cls := "java/lang/String", name := "equals", desc := "(Ljava/lang/Object;)Z" } : Jvm.MethodName) prog_34_method_66_code (3 : Nat) (Option.some Jvm.ClassFile.FieldType.boolean)) ∈ gw := gw_9 148 rfl rfl
theorem wr_9_146 : (Jvm.Cond.instanceMethod ({ cls := "java/lang/String", name := "equals", desc := "(Ljava/lang/Object;)Z" } : Jvm.MethodName)) ∈ gw := gw_9 146 rfl rfl
theorem wr_9_147 : (Jvm.Cond.selects "java/lang/String" ({ cls := "java/lang/String", name := "equals", desc := "(Ljava/lang/Object;)Z" } : Jvm.MethodName) ({ cls := "java/lang/String", name := "equals", desc := "(Ljava/lang/Object;)Z" } : Jvm.MethodName)) ∈ gw := gw_9 147 rfl rfl
theorem dr_cX14_is_24 : decode cX14_is 24 = .ok (.ifCond .eq 7, 3) := by decide +kernel
theorem dr_cX14_is_31 : decode cX14_is 31 = .ok (.iconst 0, 1) := by decide +kernel
theorem dr_cX14_is_32 : decode cX14_is 32 = .ok (.ireturn, 1) := by decide +kernel
theorem dr_cX14_is_27 : decode cX14_is 27 = .ok (.iconst 1, 1) := by decide +kernel
theorem dr_cX14_is_28 : decode cX14_is 28 = .ok (.goto 4, 3) := by decide +kernel
theorem dr_cX14_is_8 : decode cX14_is 8 = .ok (.aload_n 0, 1) := by decide +kernel
theorem dr_cX14_is_9 : decode cX14_is 9 = .ok (.getfield 38, 3) := by decide +kernel
theorem dr_cX14_is_12 : decode cX14_is 12 = .ok (.iconst 1, 1) := by decide +kernel
theorem dr_cX14_is_13 : decode cX14_is 13 = .ok (.if_icmp .ne 18, 3) := by decide +kernel
theorem dr_cX14_want_0 : decode cX14_want 0 = .ok (.aload_n 0, 1) := by decide +kernel
theorem dr_cX14_want_1 : decode cX14_want 1 = .ok (.aload_n 1, 1) := by decide +kernel
theorem dr_cX14_want_2 : decode cX14_want 2 = .ok (.invokevirtual 132, 3) := by decide +kernel
theorem wr_9_141 : (Jvm.Cond.methodLink "SpillForgeModel$Reader" (132 : Nat) ({ cls := "SpillForgeModel$Reader", name := "is", desc := "(Ljava/lang/String;)Z" } : Jvm.MethodName)) ∈ gw := gw_9 141 rfl rfl
theorem wr_9_144 : (Jvm.Cond.code ({ cls := "SpillForgeModel$Reader", name := "is", desc := "(Ljava/lang/String;)Z" } : Jvm.MethodName) prog_17_method_9_code (2 : Nat) (Option.some Jvm.ClassFile.FieldType.boolean)) ∈ gw := gw_9 144 rfl rfl
theorem wr_9_143 : (Jvm.Cond.instanceMethod ({ cls := "SpillForgeModel$Reader", name := "is", desc := "(Ljava/lang/String;)Z" } : Jvm.MethodName)) ∈ gw := gw_9 143 rfl rfl
theorem wr_p_84 : Cond.selects "SpillForgeModel$Reader" ⟨"SpillForgeModel$Reader", "is", "(Ljava/lang/String;)Z"⟩ ⟨"SpillForgeModel$Reader", "is", "(Ljava/lang/String;)Z"⟩ ∈ gw := gw_p _ 84 rfl rfl rfl
theorem dr_cX14_want_5 : decode cX14_want 5 = .ok (.ifCond .ne 8, 3) := by decide +kernel
theorem dr_cX14_want_13 : decode cX14_want 13 = .ok (.aload_n 0, 1) := by decide +kernel
theorem dr_cX14_want_14 : decode cX14_want 14 = .ok (.invokevirtual 35, 3) := by decide +kernel
theorem wr_7_215 : (Jvm.Cond.methodLink "SpillForgeModel$Reader" (35 : Nat) ({ cls := "SpillForgeModel$Reader", name := "next", desc := "()V" } : Jvm.MethodName)) ∈ gw := gw_7 215 rfl rfl
theorem wr_7_218 : (Jvm.Cond.code ({ cls := "SpillForgeModel$Reader", name := "next", desc := "()V" } : Jvm.MethodName) prog_17_method_4_code (3 : Nat) (Option.none : Option Jvm.ClassFile.FieldType)) ∈ gw := gw_7 218 rfl rfl
theorem wr_7_217 : (Jvm.Cond.instanceMethod ({ cls := "SpillForgeModel$Reader", name := "next", desc := "()V" } : Jvm.MethodName)) ∈ gw := gw_7 217 rfl rfl
theorem wr_p_75 : Cond.selects "SpillForgeModel$Reader" ⟨"SpillForgeModel$Reader", "next", "()V"⟩ ⟨"SpillForgeModel$Reader", "next", "()V"⟩ ∈ gw := gw_p _ 75 rfl rfl rfl
theorem dr_cX14_want_17 : decode cX14_want 17 = .ok (.return_, 1) := by decide +kernel
theorem dr_cX14_want_8 : decode cX14_want 8 = .ok (.aload_n 0, 1) := by decide +kernel
theorem dr_cX14_want_9 : decode cX14_want 9 = .ok (.invokevirtual 136, 3) := by decide +kernel
theorem wr_9_97 : (Jvm.Cond.methodLink "SpillForgeModel$Reader" (136 : Nat) ({ cls := "SpillForgeModel$Reader", name := "no", desc := "()LSpillForgeModel$Wrong;" } : Jvm.MethodName)) ∈ gw := gw_9 97 rfl rfl
theorem wr_9_100 : (Jvm.Cond.code ({ cls := "SpillForgeModel$Reader", name := "no", desc := "()LSpillForgeModel$Wrong;" } : Jvm.MethodName) prog_17_method_8_code (1 : Nat) (Option.some (Jvm.ClassFile.FieldType.object "SpillForgeModel$Wrong"))) ∈ gw := gw_9 100 rfl rfl
theorem wr_9_99 : (Jvm.Cond.instanceMethod ({ cls := "SpillForgeModel$Reader", name := "no", desc := "()LSpillForgeModel$Wrong;" } : Jvm.MethodName)) ∈ gw := gw_9 99 rfl rfl
theorem wr_p_81 : Cond.selects "SpillForgeModel$Reader" ⟨"SpillForgeModel$Reader", "no", "()LSpillForgeModel$Wrong;"⟩ ⟨"SpillForgeModel$Reader", "no", "()LSpillForgeModel$Wrong;"⟩ ∈ gw := gw_p _ 81 rfl rfl rfl
theorem dr_cX14_want_12 : decode cX14_want 12 = .ok (.athrow, 1) := by decide +kernel
theorem dr_cX14_want__0 : decode cX14_want_ 0 = .ok (.aload_n 0, 1) := by decide +kernel
theorem dr_cX14_want__1 : decode cX14_want_ 1 = .ok (.getfield 38, 3) := by decide +kernel
theorem dr_cX14_want__4 : decode cX14_want_ 4 = .ok (.iload_n 1, 1) := by decide +kernel
theorem dr_cX14_want__5 : decode cX14_want_ 5 = .ok (.if_icmp .eq 8, 3) := by decide +kernel
theorem dr_cX14_want__13 : decode cX14_want_ 13 = .ok (.aload_n 0, 1) := by decide +kernel
theorem dr_cX14_want__14 : decode cX14_want_ 14 = .ok (.getfield 80, 3) := by decide +kernel
theorem dr_cX14_want__17 : decode cX14_want_ 17 = .ok (.istore_n 2, 1) := by decide +kernel
theorem dr_cX14_want__18 : decode cX14_want_ 18 = .ok (.aload_n 0, 1) := by decide +kernel
theorem dr_cX14_want__19 : decode cX14_want_ 19 = .ok (.invokevirtual 35, 3) := by decide +kernel
theorem dr_cX14_want__22 : decode cX14_want_ 22 = .ok (.iload_n 2, 1) := by decide +kernel
theorem dr_cX14_want__23 : decode cX14_want_ 23 = .ok (.ireturn, 1) := by decide +kernel
theorem dr_cX14_want__8 : decode cX14_want_ 8 = .ok (.aload_n 0, 1) := by decide +kernel
theorem dr_cX14_want__9 : decode cX14_want_ 9 = .ok (.invokevirtual 136, 3) := by decide +kernel
theorem dr_cX14_want__12 : decode cX14_want_ 12 = .ok (.athrow, 1) := by decide +kernel
abbrev ky_674311_Throwable_init : gKey := (cE_Throwable_init4, 5, "java/lang/Throwable", none, [], "<init>", fun _ _ => True)
def pp_674311_Throwable_init (D : va_G) (I : FieldType → ClassId) (P674306 : List Nat) (F674307 : Nat → va_E) (q674308 : Nat) (p674309 : Int32) (p674310 : Int32) : Option Value → va_W → Nat → Nat → Prop := fun r w dc ds => ∃ (F674437 : Nat → va_E), r = none ∧ w = va_pl P674306 F674437 ∧ rFr [q674308] P674306 F674307 F674437 ∧ F674437 q674308 = .inr (21, [.null, .null, .null, .null, .null, .int p674309, .int p674310]) ∧ dc ≤ 0 ∧ ds ≤ 0
set_option maxRecDepth 100000 in
set_option maxHeartbeats 4000000 in
theorem cp_674311_Throwable_init (l : Launch) (hl0 : l.stackTraces = false) (D : va_G) (I : FieldType → ClassId) (P674306 : List Nat) (F674307 : Nat → va_E) (q674308 : Nat) (p674309 : Int32) (p674310 : Int32) (hmq674308 : q674308 ∈ P674306) (heq674308 : F674307 q674308 = .inr (21, [.null, .null, .null, .null, .null, .int p674309, .int p674310])) (bp674310 : gB p674310 0 8192) : CtA (gV D I) l yE_Throwable_init4 cE_Throwable_init4 5 none 1 12 0 0 [.ref q674308, .null, .null, .int 0, .int 0] (va_pl P674306 F674307) (pp_674311_Throwable_init D I P674306 F674307 q674308 p674309 p674310) gNA := by
  refine CtA_ofF hl0 (by decide +kernel) (Nat.le_of_ble_eq_true rfl) ?_
  have bp674309 := gB_any p674309
  refine G_aload_n 0 dr_cE_Throwable_init4_0 rfl ?_
  refine G_obj dr_cE_Throwable_init4_1 wr_4_220 wr_1_51 wr_1_52 (Nat.le_of_ble_eq_true rfl) (Nat.le_of_ble_eq_true rfl) ?_
  refine G_aload_n 0 dr_cE_Throwable_init4_4 rfl ?_
  refine G_aload_n 0 dr_cE_Throwable_init4_5 rfl ?_
  refine Gp_put 0 hmq674308 heq674308 dr_cE_Throwable_init4_6 (gk_X16 D I) (Nat.le_of_ble_eq_true rfl) wr_5_15 rfl rfl rfl (Nat.le_of_ble_eq_true rfl) (fun F674312 e674313 n674314 => ?_)
  have he674315 : F674312 q674308 = .inr (21, [.ref q674308, .null, .null, .null, .null, .int p674309, .int p674310]) := e674313
  have hfr674316 : rFr [q674308] P674306 F674307 F674312 := rFr_put (rFr_rf (W := []) (P := P674306) (F := F674307)) n674314
  refine G_aload_n 0 dr_cE_Throwable_init4_9 rfl ?_
  refine G_gets dr_cE_Throwable_init4_10 wr_4_221 gz_us (fun x674319 hx674318 => ?_)
  rcases hx674318 with rfl | ⟨t674317, rfl⟩
  · refine Gp_put 1 hmq674308 he674315 dr_cE_Throwable_init4_13 (gk_X16 D I) (Nat.le_of_ble_eq_true rfl) wr_5_16 rfl rfl rfl (Nat.le_of_ble_eq_true rfl) (fun F674320 e674321 n674322 => ?_)
    have he674323 : F674320 q674308 = .inr (21, [.ref q674308, .null, .null, .null, .null, .int p674309, .int p674310]) := e674321
    have hfr674324 : rFr [q674308] P674306 F674307 F674320 := rFr_put' List.mem_cons_self hfr674316 n674322
    refine G_aload_n 0 dr_cE_Throwable_init4_16 rfl ?_
    refine G_gets dr_cE_Throwable_init4_17 wr_4_223 gz_ss (fun x674327 hx674326 => ?_)
    rcases hx674326 with rfl | ⟨t674325, rfl⟩
    · refine Gp_put 2 hmq674308 he674323 dr_cE_Throwable_init4_20 (gk_X16 D I) (Nat.le_of_ble_eq_true rfl) wr_5_17 rfl rfl rfl (Nat.le_of_ble_eq_true rfl) (fun F674328 e674329 n674330 => ?_)
      have he674331 : F674328 q674308 = .inr (21, [.ref q674308, .null, .null, .null, .null, .int p674309, .int p674310]) := e674329
      have hfr674332 : rFr [q674308] P674306 F674307 F674328 := rFr_put' List.mem_cons_self hfr674324 n674330
      refine G_iload 4 dr_cE_Throwable_init4_23 rfl ?_
      refine G_if_eq 36 dr_cE_Throwable_init4_25 (by decide +kernel) (fun _ => ?_) (fun hc => absurd hc (by decide))
      refine G_aload_n 0 dr_cE_Throwable_init4_36 rfl ?_
      refine G_null dr_cE_Throwable_init4_37 ?_
      refine Gp_put 1 hmq674308 he674331 dr_cE_Throwable_init4_38 (gk_X16 D I) (Nat.le_of_ble_eq_true rfl) wr_5_16 rfl rfl rfl (Nat.le_of_ble_eq_true rfl) (fun F674333 e674334 n674335 => ?_)
      have he674336 : F674333 q674308 = .inr (21, [.ref q674308, .null, .null, .null, .null, .int p674309, .int p674310]) := e674334
      have hfr674337 : rFr [q674308] P674306 F674307 F674333 := rFr_put' List.mem_cons_self hfr674332 n674335
      refine G_aload_n 0 dr_cE_Throwable_init4_41 rfl ?_
      refine G_aload_nN 1 dr_cE_Throwable_init4_42 rfl ?_
      refine Gp_put 3 hmq674308 he674336 dr_cE_Throwable_init4_43 (gk_X16 D I) (Nat.le_of_ble_eq_true rfl) wr_5_14 rfl rfl rfl (Nat.le_of_ble_eq_true rfl) (fun F674338 e674339 n674340 => ?_)
      have he674341 : F674338 q674308 = .inr (21, [.ref q674308, .null, .null, .null, .null, .int p674309, .int p674310]) := e674339
      have hfr674342 : rFr [q674308] P674306 F674307 F674338 := rFr_put' List.mem_cons_self hfr674337 n674340
      refine G_aload_n 0 dr_cE_Throwable_init4_46 rfl ?_
      refine G_aload_nN 2 dr_cE_Throwable_init4_47 rfl ?_
      refine Gp_put 0 hmq674308 he674341 dr_cE_Throwable_init4_48 (gk_X16 D I) (Nat.le_of_ble_eq_true rfl) wr_5_15 rfl rfl rfl (Nat.le_of_ble_eq_true rfl) (fun F674343 e674344 n674345 => ?_)
      have he674346 : F674343 q674308 = .inr (21, [.null, .null, .null, .null, .null, .int p674309, .int p674310]) := e674344
      have hfr674347 : rFr [q674308] P674306 F674307 F674343 := rFr_put' List.mem_cons_self hfr674342 n674345
      refine G_iload_n 3 dr_cE_Throwable_init4_51 rfl ?_
      refine G_if_ne 60 dr_cE_Throwable_init4_52 (by decide +kernel) (fun hc => absurd hc (by decide)) (fun _ => ?_)
      refine G_aload_n 0 dr_cE_Throwable_init4_55 rfl ?_
      refine G_null dr_cE_Throwable_init4_56 ?_
      refine Gp_put 2 hmq674308 he674346 dr_cE_Throwable_init4_57 (gk_X16 D I) (Nat.le_of_ble_eq_true rfl) wr_5_17 rfl rfl rfl (Nat.le_of_ble_eq_true rfl) (fun F674348 e674349 n674350 => ?_)
      have he674351 : F674348 q674308 = .inr (21, [.null, .null, .null, .null, .null, .int p674309, .int p674310]) := e674349
      have hfr674352 : rFr [q674308] P674306 F674307 F674348 := rFr_put' List.mem_cons_self hfr674347 n674350
      exact G_vretA dr_cE_Throwable_init4_60 rfl (Nat.le_of_ble_eq_true rfl) (Nat.le_of_ble_eq_true rfl) ⟨F674348, rfl, rfl, hfr674352, he674351, (Nat.le_of_ble_eq_true rfl), (Nat.le_of_ble_eq_true rfl)⟩
    · refine Gp_put 2 hmq674308 he674323 dr_cE_Throwable_init4_20 (gk_X16 D I) (Nat.le_of_ble_eq_true rfl) wr_5_17 rfl rfl rfl (Nat.le_of_ble_eq_true rfl) (fun F674353 e674354 n674355 => ?_)
      have he674356 : F674353 q674308 = .inr (21, [.ref q674308, .null, .ref t674325, .null, .null, .int p674309, .int p674310]) := e674354
      have hfr674357 : rFr [q674308] P674306 F674307 F674353 := rFr_put' List.mem_cons_self hfr674324 n674355
      refine G_iload 4 dr_cE_Throwable_init4_23 rfl ?_
      refine G_if_eq 36 dr_cE_Throwable_init4_25 (by decide +kernel) (fun _ => ?_) (fun hc => absurd hc (by decide))
      refine G_aload_n 0 dr_cE_Throwable_init4_36 rfl ?_
      refine G_null dr_cE_Throwable_init4_37 ?_
      refine Gp_put 1 hmq674308 he674356 dr_cE_Throwable_init4_38 (gk_X16 D I) (Nat.le_of_ble_eq_true rfl) wr_5_16 rfl rfl rfl (Nat.le_of_ble_eq_true rfl) (fun F674358 e674359 n674360 => ?_)
      have he674361 : F674358 q674308 = .inr (21, [.ref q674308, .null, .ref t674325, .null, .null, .int p674309, .int p674310]) := e674359
      have hfr674362 : rFr [q674308] P674306 F674307 F674358 := rFr_put' List.mem_cons_self hfr674357 n674360
      refine G_aload_n 0 dr_cE_Throwable_init4_41 rfl ?_
      refine G_aload_nN 1 dr_cE_Throwable_init4_42 rfl ?_
      refine Gp_put 3 hmq674308 he674361 dr_cE_Throwable_init4_43 (gk_X16 D I) (Nat.le_of_ble_eq_true rfl) wr_5_14 rfl rfl rfl (Nat.le_of_ble_eq_true rfl) (fun F674363 e674364 n674365 => ?_)
      have he674366 : F674363 q674308 = .inr (21, [.ref q674308, .null, .ref t674325, .null, .null, .int p674309, .int p674310]) := e674364
      have hfr674367 : rFr [q674308] P674306 F674307 F674363 := rFr_put' List.mem_cons_self hfr674362 n674365
      refine G_aload_n 0 dr_cE_Throwable_init4_46 rfl ?_
      refine G_aload_nN 2 dr_cE_Throwable_init4_47 rfl ?_
      refine Gp_put 0 hmq674308 he674366 dr_cE_Throwable_init4_48 (gk_X16 D I) (Nat.le_of_ble_eq_true rfl) wr_5_15 rfl rfl rfl (Nat.le_of_ble_eq_true rfl) (fun F674368 e674369 n674370 => ?_)
      have he674371 : F674368 q674308 = .inr (21, [.null, .null, .ref t674325, .null, .null, .int p674309, .int p674310]) := e674369
      have hfr674372 : rFr [q674308] P674306 F674307 F674368 := rFr_put' List.mem_cons_self hfr674367 n674370
      refine G_iload_n 3 dr_cE_Throwable_init4_51 rfl ?_
      refine G_if_ne 60 dr_cE_Throwable_init4_52 (by decide +kernel) (fun hc => absurd hc (by decide)) (fun _ => ?_)
      refine G_aload_n 0 dr_cE_Throwable_init4_55 rfl ?_
      refine G_null dr_cE_Throwable_init4_56 ?_
      refine Gp_put 2 hmq674308 he674371 dr_cE_Throwable_init4_57 (gk_X16 D I) (Nat.le_of_ble_eq_true rfl) wr_5_17 rfl rfl rfl (Nat.le_of_ble_eq_true rfl) (fun F674373 e674374 n674375 => ?_)
      have he674376 : F674373 q674308 = .inr (21, [.null, .null, .null, .null, .null, .int p674309, .int p674310]) := e674374
      have hfr674377 : rFr [q674308] P674306 F674307 F674373 := rFr_put' List.mem_cons_self hfr674372 n674375
      exact G_vretA dr_cE_Throwable_init4_60 rfl (Nat.le_of_ble_eq_true rfl) (Nat.le_of_ble_eq_true rfl) ⟨F674373, rfl, rfl, hfr674377, he674376, (Nat.le_of_ble_eq_true rfl), (Nat.le_of_ble_eq_true rfl)⟩
  · refine Gp_put 1 hmq674308 he674315 dr_cE_Throwable_init4_13 (gk_X16 D I) (Nat.le_of_ble_eq_true rfl) wr_5_16 rfl rfl rfl (Nat.le_of_ble_eq_true rfl) (fun F674378 e674379 n674380 => ?_)
    have he674381 : F674378 q674308 = .inr (21, [.ref q674308, .ref t674317, .null, .null, .null, .int p674309, .int p674310]) := e674379
    have hfr674382 : rFr [q674308] P674306 F674307 F674378 := rFr_put' List.mem_cons_self hfr674316 n674380
    refine G_aload_n 0 dr_cE_Throwable_init4_16 rfl ?_
    refine G_gets dr_cE_Throwable_init4_17 wr_4_223 gz_ss (fun x674385 hx674384 => ?_)
    rcases hx674384 with rfl | ⟨t674383, rfl⟩
    · refine Gp_put 2 hmq674308 he674381 dr_cE_Throwable_init4_20 (gk_X16 D I) (Nat.le_of_ble_eq_true rfl) wr_5_17 rfl rfl rfl (Nat.le_of_ble_eq_true rfl) (fun F674386 e674387 n674388 => ?_)
      have he674389 : F674386 q674308 = .inr (21, [.ref q674308, .ref t674317, .null, .null, .null, .int p674309, .int p674310]) := e674387
      have hfr674390 : rFr [q674308] P674306 F674307 F674386 := rFr_put' List.mem_cons_self hfr674382 n674388
      refine G_iload 4 dr_cE_Throwable_init4_23 rfl ?_
      refine G_if_eq 36 dr_cE_Throwable_init4_25 (by decide +kernel) (fun _ => ?_) (fun hc => absurd hc (by decide))
      refine G_aload_n 0 dr_cE_Throwable_init4_36 rfl ?_
      refine G_null dr_cE_Throwable_init4_37 ?_
      refine Gp_put 1 hmq674308 he674389 dr_cE_Throwable_init4_38 (gk_X16 D I) (Nat.le_of_ble_eq_true rfl) wr_5_16 rfl rfl rfl (Nat.le_of_ble_eq_true rfl) (fun F674391 e674392 n674393 => ?_)
      have he674394 : F674391 q674308 = .inr (21, [.ref q674308, .null, .null, .null, .null, .int p674309, .int p674310]) := e674392
      have hfr674395 : rFr [q674308] P674306 F674307 F674391 := rFr_put' List.mem_cons_self hfr674390 n674393
      refine G_aload_n 0 dr_cE_Throwable_init4_41 rfl ?_
      refine G_aload_nN 1 dr_cE_Throwable_init4_42 rfl ?_
      refine Gp_put 3 hmq674308 he674394 dr_cE_Throwable_init4_43 (gk_X16 D I) (Nat.le_of_ble_eq_true rfl) wr_5_14 rfl rfl rfl (Nat.le_of_ble_eq_true rfl) (fun F674396 e674397 n674398 => ?_)
      have he674399 : F674396 q674308 = .inr (21, [.ref q674308, .null, .null, .null, .null, .int p674309, .int p674310]) := e674397
      have hfr674400 : rFr [q674308] P674306 F674307 F674396 := rFr_put' List.mem_cons_self hfr674395 n674398
      refine G_aload_n 0 dr_cE_Throwable_init4_46 rfl ?_
      refine G_aload_nN 2 dr_cE_Throwable_init4_47 rfl ?_
      refine Gp_put 0 hmq674308 he674399 dr_cE_Throwable_init4_48 (gk_X16 D I) (Nat.le_of_ble_eq_true rfl) wr_5_15 rfl rfl rfl (Nat.le_of_ble_eq_true rfl) (fun F674401 e674402 n674403 => ?_)
      have he674404 : F674401 q674308 = .inr (21, [.null, .null, .null, .null, .null, .int p674309, .int p674310]) := e674402
      have hfr674405 : rFr [q674308] P674306 F674307 F674401 := rFr_put' List.mem_cons_self hfr674400 n674403
      refine G_iload_n 3 dr_cE_Throwable_init4_51 rfl ?_
      refine G_if_ne 60 dr_cE_Throwable_init4_52 (by decide +kernel) (fun hc => absurd hc (by decide)) (fun _ => ?_)
      refine G_aload_n 0 dr_cE_Throwable_init4_55 rfl ?_
      refine G_null dr_cE_Throwable_init4_56 ?_
      refine Gp_put 2 hmq674308 he674404 dr_cE_Throwable_init4_57 (gk_X16 D I) (Nat.le_of_ble_eq_true rfl) wr_5_17 rfl rfl rfl (Nat.le_of_ble_eq_true rfl) (fun F674406 e674407 n674408 => ?_)
      have he674409 : F674406 q674308 = .inr (21, [.null, .null, .null, .null, .null, .int p674309, .int p674310]) := e674407
      have hfr674410 : rFr [q674308] P674306 F674307 F674406 := rFr_put' List.mem_cons_self hfr674405 n674408
      exact G_vretA dr_cE_Throwable_init4_60 rfl (Nat.le_of_ble_eq_true rfl) (Nat.le_of_ble_eq_true rfl) ⟨F674406, rfl, rfl, hfr674410, he674409, (Nat.le_of_ble_eq_true rfl), (Nat.le_of_ble_eq_true rfl)⟩
    · refine Gp_put 2 hmq674308 he674381 dr_cE_Throwable_init4_20 (gk_X16 D I) (Nat.le_of_ble_eq_true rfl) wr_5_17 rfl rfl rfl (Nat.le_of_ble_eq_true rfl) (fun F674411 e674412 n674413 => ?_)
      have he674414 : F674411 q674308 = .inr (21, [.ref q674308, .ref t674317, .ref t674383, .null, .null, .int p674309, .int p674310]) := e674412
      have hfr674415 : rFr [q674308] P674306 F674307 F674411 := rFr_put' List.mem_cons_self hfr674382 n674413
      refine G_iload 4 dr_cE_Throwable_init4_23 rfl ?_
      refine G_if_eq 36 dr_cE_Throwable_init4_25 (by decide +kernel) (fun _ => ?_) (fun hc => absurd hc (by decide))
      refine G_aload_n 0 dr_cE_Throwable_init4_36 rfl ?_
      refine G_null dr_cE_Throwable_init4_37 ?_
      refine Gp_put 1 hmq674308 he674414 dr_cE_Throwable_init4_38 (gk_X16 D I) (Nat.le_of_ble_eq_true rfl) wr_5_16 rfl rfl rfl (Nat.le_of_ble_eq_true rfl) (fun F674416 e674417 n674418 => ?_)
      have he674419 : F674416 q674308 = .inr (21, [.ref q674308, .null, .ref t674383, .null, .null, .int p674309, .int p674310]) := e674417
      have hfr674420 : rFr [q674308] P674306 F674307 F674416 := rFr_put' List.mem_cons_self hfr674415 n674418
      refine G_aload_n 0 dr_cE_Throwable_init4_41 rfl ?_
      refine G_aload_nN 1 dr_cE_Throwable_init4_42 rfl ?_
      refine Gp_put 3 hmq674308 he674419 dr_cE_Throwable_init4_43 (gk_X16 D I) (Nat.le_of_ble_eq_true rfl) wr_5_14 rfl rfl rfl (Nat.le_of_ble_eq_true rfl) (fun F674421 e674422 n674423 => ?_)
      have he674424 : F674421 q674308 = .inr (21, [.ref q674308, .null, .ref t674383, .null, .null, .int p674309, .int p674310]) := e674422
      have hfr674425 : rFr [q674308] P674306 F674307 F674421 := rFr_put' List.mem_cons_self hfr674420 n674423
      refine G_aload_n 0 dr_cE_Throwable_init4_46 rfl ?_
      refine G_aload_nN 2 dr_cE_Throwable_init4_47 rfl ?_
      refine Gp_put 0 hmq674308 he674424 dr_cE_Throwable_init4_48 (gk_X16 D I) (Nat.le_of_ble_eq_true rfl) wr_5_15 rfl rfl rfl (Nat.le_of_ble_eq_true rfl) (fun F674426 e674427 n674428 => ?_)
      have he674429 : F674426 q674308 = .inr (21, [.null, .null, .ref t674383, .null, .null, .int p674309, .int p674310]) := e674427
      have hfr674430 : rFr [q674308] P674306 F674307 F674426 := rFr_put' List.mem_cons_self hfr674425 n674428
      refine G_iload_n 3 dr_cE_Throwable_init4_51 rfl ?_
      refine G_if_ne 60 dr_cE_Throwable_init4_52 (by decide +kernel) (fun hc => absurd hc (by decide)) (fun _ => ?_)
      refine G_aload_n 0 dr_cE_Throwable_init4_55 rfl ?_
      refine G_null dr_cE_Throwable_init4_56 ?_
      refine Gp_put 2 hmq674308 he674429 dr_cE_Throwable_init4_57 (gk_X16 D I) (Nat.le_of_ble_eq_true rfl) wr_5_17 rfl rfl rfl (Nat.le_of_ble_eq_true rfl) (fun F674431 e674432 n674433 => ?_)
      have he674434 : F674431 q674308 = .inr (21, [.null, .null, .null, .null, .null, .int p674309, .int p674310]) := e674432
      have hfr674435 : rFr [q674308] P674306 F674307 F674431 := rFr_put' List.mem_cons_self hfr674430 n674433
      exact G_vretA dr_cE_Throwable_init4_60 rfl (Nat.le_of_ble_eq_true rfl) (Nat.le_of_ble_eq_true rfl) ⟨F674431, rfl, rfl, hfr674435, he674434, (Nat.le_of_ble_eq_true rfl), (Nat.le_of_ble_eq_true rfl)⟩
abbrev ky_674305_Exception_init : gKey := (cE_Exception_init4, 5, "java/lang/Exception", none, [], "<init>", fun _ _ => True)
def pp_674305_Exception_init (D : va_G) (I : FieldType → ClassId) (P674300 : List Nat) (F674301 : Nat → va_E) (q674302 : Nat) (p674303 : Int32) (p674304 : Int32) : Option Value → va_W → Nat → Nat → Prop := fun r w dc ds => ∃ (F674449 : Nat → va_E), r = none ∧ w = va_pl P674300 F674449 ∧ rFr [q674302] P674300 F674301 F674449 ∧ F674449 q674302 = .inr (21, [.null, .null, .null, .null, .null, .int p674303, .int p674304]) ∧ dc ≤ 0 ∧ ds ≤ 0
set_option maxRecDepth 100000 in
set_option maxHeartbeats 4000000 in
theorem cp_674305_Exception_init (l : Launch) (hl0 : l.stackTraces = false) (D : va_G) (I : FieldType → ClassId) (P674300 : List Nat) (F674301 : Nat → va_E) (q674302 : Nat) (p674303 : Int32) (p674304 : Int32) (hmq674302 : q674302 ∈ P674300) (heq674302 : F674301 q674302 = .inr (21, [.null, .null, .null, .null, .null, .int p674303, .int p674304])) (bp674304 : gB p674304 0 8192) : CtA (gV D I) l yE_Exception_init4 cE_Exception_init4 5 none 2 36 0 0 [.ref q674302, .null, .null, .int 0, .int 0] (va_pl P674300 F674301) (pp_674305_Exception_init D I P674300 F674301 q674302 p674303 p674304) gNA := by
  refine CtA_ofF hl0 (by decide +kernel) (Nat.le_of_ble_eq_true rfl) ?_
  have bp674303 := gB_any p674303
  refine G_aload_n 0 dr_cE_Exception_init4_0 rfl ?_
  refine G_aload_nN 1 dr_cE_Exception_init4_1 rfl ?_
  refine G_aload_nN 2 dr_cE_Exception_init4_2 rfl ?_
  refine G_iload_n 3 dr_cE_Exception_init4_3 rfl ?_
  refine G_iload 4 dr_cE_Exception_init4_4 rfl ?_
  refine Gw_callI (As := [.null, .null, .int 0, .int 0]) (gV_ok D I) (cp_674311_Throwable_init l hl0 D I P674300 F674301 q674302 p674303 p674304 hmq674302 heq674302 bp674304) dr_cE_Exception_init4_6 ⟨wr_9_119, wr_1_23, wr_9_121, by decide, rfl, (Nat.le_of_ble_eq_true rfl), (Nat.le_of_ble_eq_true rfl)⟩ wr_9_120 rfl (show 0 + 0 ≤ 0 by first | omega | decide) (show 0 + 0 ≤ 0 by first | omega | decide) (Nat.le_of_ble_eq_true rfl) (fun r674441 w674442 dc674438 ds674439 hp674440 => ?_)
  obtain ⟨F674443, rfl, rfl, hfr674445, he674446, hdc, hds⟩ := hp674440
  have hfr674447 : rFr [q674302] P674300 F674301 F674443 := rFr_call (rSub_rf (P := P674300)) (rFr_rf (W := []) (P := P674300) (F := F674301)) hfr674445 (fun b hb hn => ⟨nm_n, (nm_c (fun e => hn (e ▸ List.mem_cons_self)) nm_n)⟩)
  change G _ _ _ _ _ _ _ _ _ _ _
  refine G_widen (cs' := 0) (sl' := 0) (by omega) (by omega) ?_
  exact G_vretA dr_cE_Exception_init4_9 rfl (Nat.le_of_ble_eq_true rfl) (Nat.le_of_ble_eq_true rfl) ⟨F674443, rfl, rfl, hfr674447, he674446, (Nat.le_of_ble_eq_true rfl), (Nat.le_of_ble_eq_true rfl)⟩
abbrev ky_674299_RuntimeException_init : gKey := (cE_RuntimeException_init4, 5, "java/lang/RuntimeException", none, [], "<init>", fun _ _ => True)
def pp_674299_RuntimeException_init (D : va_G) (I : FieldType → ClassId) (P674294 : List Nat) (F674295 : Nat → va_E) (q674296 : Nat) (p674297 : Int32) (p674298 : Int32) : Option Value → va_W → Nat → Nat → Prop := fun r w dc ds => ∃ (F674461 : Nat → va_E), r = none ∧ w = va_pl P674294 F674461 ∧ rFr [q674296] P674294 F674295 F674461 ∧ F674461 q674296 = .inr (21, [.null, .null, .null, .null, .null, .int p674297, .int p674298]) ∧ dc ≤ 0 ∧ ds ≤ 0
set_option maxRecDepth 100000 in
set_option maxHeartbeats 4000000 in
theorem cp_674299_RuntimeException_init (l : Launch) (hl0 : l.stackTraces = false) (D : va_G) (I : FieldType → ClassId) (P674294 : List Nat) (F674295 : Nat → va_E) (q674296 : Nat) (p674297 : Int32) (p674298 : Int32) (hmq674296 : q674296 ∈ P674294) (heq674296 : F674295 q674296 = .inr (21, [.null, .null, .null, .null, .null, .int p674297, .int p674298])) (bp674298 : gB p674298 0 8192) : CtA (gV D I) l yE_RuntimeException_init4 cE_RuntimeException_init4 5 none 3 60 0 0 [.ref q674296, .null, .null, .int 0, .int 0] (va_pl P674294 F674295) (pp_674299_RuntimeException_init D I P674294 F674295 q674296 p674297 p674298) gNA := by
  refine CtA_ofF hl0 (by decide +kernel) (Nat.le_of_ble_eq_true rfl) ?_
  have bp674297 := gB_any p674297
  refine G_aload_n 0 dr_cE_RuntimeException_init4_0 rfl ?_
  refine G_aload_nN 1 dr_cE_RuntimeException_init4_1 rfl ?_
  refine G_aload_nN 2 dr_cE_RuntimeException_init4_2 rfl ?_
  refine G_iload_n 3 dr_cE_RuntimeException_init4_3 rfl ?_
  refine G_iload 4 dr_cE_RuntimeException_init4_4 rfl ?_
  refine Gw_callI (As := [.null, .null, .int 0, .int 0]) (gV_ok D I) (cp_674305_Exception_init l hl0 D I P674294 F674295 q674296 p674297 p674298 hmq674296 heq674296 bp674298) dr_cE_RuntimeException_init4_6 ⟨wr_9_116, wr_1_24, wr_9_118, by decide, rfl, (Nat.le_of_ble_eq_true rfl), (Nat.le_of_ble_eq_true rfl)⟩ wr_9_117 rfl (show 0 + 0 ≤ 0 by first | omega | decide) (show 0 + 0 ≤ 0 by first | omega | decide) (Nat.le_of_ble_eq_true rfl) (fun r674453 w674454 dc674450 ds674451 hp674452 => ?_)
  obtain ⟨F674455, rfl, rfl, hfr674457, he674458, hdc, hds⟩ := hp674452
  have hfr674459 : rFr [q674296] P674294 F674295 F674455 := rFr_call (rSub_rf (P := P674294)) (rFr_rf (W := []) (P := P674294) (F := F674295)) hfr674457 (fun b hb hn => ⟨nm_n, (nm_c (fun e => hn (e ▸ List.mem_cons_self)) nm_n)⟩)
  change G _ _ _ _ _ _ _ _ _ _ _
  refine G_widen (cs' := 0) (sl' := 0) (by omega) (by omega) ?_
  exact G_vretA dr_cE_RuntimeException_init4_9 rfl (Nat.le_of_ble_eq_true rfl) (Nat.le_of_ble_eq_true rfl) ⟨F674455, rfl, rfl, hfr674459, he674458, (Nat.le_of_ble_eq_true rfl), (Nat.le_of_ble_eq_true rfl)⟩
abbrev ky_674293_Wrong_init : gKey := (cX16_init, 2, "SpillForgeModel$Wrong", none, [], "<init>", fun _ _ => True)
def pp_674293_Wrong_init (D : va_G) (I : FieldType → ClassId) (P674287 : List Nat) (F674288 : Nat → va_E) (q674289 : Nat) (p674290 : Int32) (p674291 : Int32) (p674292 : Int32) : Option Value → va_W → Nat → Nat → Prop := fun r w dc ds => ∃ (F674478 : Nat → va_E), r = none ∧ w = va_pl P674287 F674478 ∧ rFr [q674289] P674287 F674288 F674478 ∧ F674478 q674289 = .inr (21, [.null, .null, .null, .null, .null, .int p674291, .int p674290]) ∧ dc ≤ 0 ∧ ds ≤ 0
set_option maxRecDepth 100000 in
set_option maxHeartbeats 4000000 in
theorem cp_674293_Wrong_init (l : Launch) (hl0 : l.stackTraces = false) (D : va_G) (I : FieldType → ClassId) (P674287 : List Nat) (F674288 : Nat → va_E) (q674289 : Nat) (p674290 : Int32) (p674291 : Int32) (p674292 : Int32) (hmq674289 : q674289 ∈ P674287) (heq674289 : F674288 q674289 = .inr (21, [.null, .null, .null, .null, .null, .int p674291, .int p674292])) (bp674292 : gB p674292 0 8192) : CtA (gV D I) l yX16_init cX16_init 2 none 4 84 0 0 [.ref q674289, .int p674290] (va_pl P674287 F674288) (pp_674293_Wrong_init D I P674287 F674288 q674289 p674290 p674291 p674292) gNA := by
  refine CtA_of hl0 (by decide) (Nat.le_of_ble_eq_true rfl) ?_
  have bp674290 := gB_any p674290
  have bp674291 := gB_any p674291
  refine G_aload_n 0 dr_cX16_init_0 rfl ?_
  refine G_null dr_cX16_init_1 ?_
  refine G_null dr_cX16_init_2 ?_
  refine G_iconst 0 dr_cX16_init_3 (by decide +kernel) ?_
  refine G_iconst 0 dr_cX16_init_4 (by decide +kernel) ?_
  refine Gw_callI (As := [.null, .null, .int 0, .int 0]) (gV_ok D I) (cp_674299_RuntimeException_init l hl0 D I P674287 F674288 q674289 p674291 p674292 hmq674289 heq674289 bp674292) dr_cX16_init_5 ⟨wr_9_113, wr_1_25, wr_9_115, by decide, rfl, (Nat.le_of_ble_eq_true rfl), (Nat.le_of_ble_eq_true rfl)⟩ wr_9_114 rfl (show 0 + 0 ≤ 0 by first | omega | decide) (show 0 + 0 ≤ 0 by first | omega | decide) (Nat.le_of_ble_eq_true rfl) (fun r674465 w674466 dc674462 ds674463 hp674464 => ?_)
  obtain ⟨F674467, rfl, rfl, hfr674469, he674470, hdc, hds⟩ := hp674464
  have hfr674471 : rFr [q674289] P674287 F674288 F674467 := rFr_call (rSub_rf (P := P674287)) (rFr_rf (W := []) (P := P674287) (F := F674288)) hfr674469 (fun b hb hn => ⟨nm_n, (nm_c (fun e => hn (e ▸ List.mem_cons_self)) nm_n)⟩)
  change G _ _ _ _ _ _ _ _ _ _ _
  refine G_widen (cs' := 0) (sl' := 0) (by omega) (by omega) ?_
  refine G_aload_n 0 dr_cX16_init_8 rfl ?_
  refine G_iload_n 1 dr_cX16_init_9 rfl ?_
  refine Gp_putF 6 hmq674289 he674470 dr_cX16_init_10 (gk_X16 D I) (Nat.le_of_ble_eq_true rfl) wr_9_122 rfl rfl rfl rfl rfl (Nat.le_of_ble_eq_true rfl) (fun F674472 e674473 n674474 => ?_)
  have he674475 : F674472 q674289 = .inr (21, [.null, .null, .null, .null, .null, .int p674291, .int p674290]) := e674473
  have hfr674476 : rFr [q674289] P674287 F674288 F674472 := rFr_put' List.mem_cons_self hfr674471 n674474
  exact G_vretA dr_cX16_init_13 rfl (Nat.le_of_ble_eq_true rfl) (Nat.le_of_ble_eq_true rfl) ⟨F674472, rfl, rfl, hfr674476, he674475, (Nat.le_of_ble_eq_true rfl), (Nat.le_of_ble_eq_true rfl)⟩
abbrev ky_674270_Reader_no : gKey := (cX14_no, 1, "SpillForgeModel$Reader", (some (FieldType.object "SpillForgeModel$Wrong")), [], "no", fun _ _ => True)
def pp_674270_Reader_no (D : va_G) (I : FieldType → ClassId) (P674252 : List Nat) (F674253 : Nat → va_E) (q674254 : Nat) (q674255 : Nat) (p674256 : Int32) (p674257 : Int32) (p674258 : Int32) (p674259 : Int32) (p674260 : Int32) (p674261 : Int32) (qo674262 : Nat) (p674263 : Int32) (p674264 : Int32) (p674265 : Int32) (qo674266 : Nat) (qo674267 : Nat) (p674268 : Int32) (f674269 : Nat → Int32) : Option Value → va_W → Nat → Nat → Prop := fun r w dc ds => ∃ (P674492 : List Nat) (F674493 : Nat → va_E) (q674491 : Nat), r = some (.ref q674491) ∧ w = va_pl P674492 F674493 ∧ rSub P674252 P674492 ∧ rFr [] P674252 F674253 F674493 ∧ F674493 q674254 = .inr (19, [.ref q674255, .int p674256, .int p674257, .int p674258, .int p674259, .int p674260, .int p674261, .ref qo674262, .int p674263, .int p674264, .int p674265, .ref qo674266, .ref qo674267, .int p674268]) ∧ F674493 q674255 = .inl (I .byte, 8192, .inl f674269) ∧ F674493 q674491 = .inr (21, [.null, .null, .null, .null, .null, .int 0, .int p674259]) ∧ q674491 ∈ P674492 ∧ q674491 ∉ P674252 ∧ dc ≤ 1 ∧ ds ≤ 7
set_option maxRecDepth 100000 in
set_option maxHeartbeats 4000000 in
theorem cp_674270_Reader_no (l : Launch) (hl0 : l.stackTraces = false) (D : va_G) (I : FieldType → ClassId) (P674252 : List Nat) (F674253 : Nat → va_E) (q674254 : Nat) (q674255 : Nat) (p674256 : Int32) (p674257 : Int32) (p674258 : Int32) (p674259 : Int32) (p674260 : Int32) (p674261 : Int32) (qo674262 : Nat) (p674263 : Int32) (p674264 : Int32) (p674265 : Int32) (qo674266 : Nat) (qo674267 : Nat) (p674268 : Int32) (f674269 : Nat → Int32) (hmq674254 : q674254 ∈ P674252) (hmq674255 : q674255 ∈ P674252) (heq674254 : F674253 q674254 = .inr (19, [.ref q674255, .int p674256, .int p674257, .int p674258, .int p674259, .int p674260, .int p674261, .ref qo674262, .int p674263, .int p674264, .int p674265, .ref qo674266, .ref qo674267, .int p674268])) (heq674255 : F674253 q674255 = .inl (I .byte, 8192, .inl f674269)) (bp674256 : gB p674256 0 8192) (bp674257 : gB p674257 0 8192) (bp674258 : gB p674258 0 6) (bp674259 : gB p674259 0 8192) (bp674261 : gB p674261 0 6) (bp674263 : gB p674263 (-1) 8192) (bp674264 : gB p674264 0 4) (bp674265 : gB p674265 0 1000000) (bp674268 : gB p674268 0 1000000) (bf674269 : gF f674269 (-128) 127) : CtA (gV D I) l yX14_no cX14_no 1 (some (FieldType.object "SpillForgeModel$Wrong")) 5 105 1 7 [.ref q674254] (va_pl P674252 F674253) (pp_674270_Reader_no D I P674252 F674253 q674254 q674255 p674256 p674257 p674258 p674259 p674260 p674261 qo674262 p674263 p674264 p674265 qo674266 qo674267 p674268 f674269) gNA := by
  refine CtA_of hl0 (by decide) (Nat.le_of_ble_eq_true rfl) ?_
  have bp674260 := gB_any p674260
  refine G_new [.null, .null, .null, .null, .null, .int 0, .int 0] dr_cX14_no_0 (gk_X16 D I) wr_9_101 wr_9_102 wr_1_37 (gfs_X16) (show 0 + 1 ≤ 1 by first | omega | decide) (show 0 + 7 ≤ 7 by first | omega | decide) (fun q674271 => Gp_in (fun P674272 F674273 hq674274 hP674275 e674276 n674277 => ?_))
  refine G_widen (cs' := 1) (sl' := 7) (by omega) (by omega) ?_
  have he674278 : F674273 q674254 = .inr (19, [.ref q674255, .int p674256, .int p674257, .int p674258, .int p674259, .int p674260, .int p674261, .ref qo674262, .int p674263, .int p674264, .int p674265, .ref qo674266, .ref qo674267, .int p674268]) := (n674277 q674254 (fun h => hq674274 (h ▸ hmq674254))).trans heq674254
  have he674279 : F674273 q674255 = .inl (I .byte, 8192, .inl f674269) := (n674277 q674255 (fun h => hq674274 (h ▸ hmq674255))).trans heq674255
  have he674280 : F674273 q674271 = .inr (21, [.null, .null, .null, .null, .null, .int 0, .int 0]) := e674276
  have hm674281 : q674254 ∈ P674272 := (hP674275 q674254).mpr (Or.inl hmq674254)
  have hm674282 : q674255 ∈ P674272 := (hP674275 q674255).mpr (Or.inl hmq674255)
  have hm674283 : q674271 ∈ P674272 := (hP674275 q674271).mpr (Or.inr rfl)
  have hq674284 : q674271 ∉ P674252 := fun z => hq674274 ((rSub_rf (P := P674252)) q674271 z)
  have hfr674285 : rFr [] P674252 F674253 F674273 := rFr_new (rSub_rf (P := P674252)) hq674274 (rFr_rf (W := []) (P := P674252) (F := F674253)) n674277
  have hsb674286 : rSub P674252 P674272 := rSub_new (rSub_rf (P := P674252)) hP674275
  refine G_dup dr_cX14_no_3 rfl ?_
  refine G_aload_n 0 dr_cX14_no_4 rfl ?_
  refine Gp_get 4 hm674281 he674278 dr_cX14_no_5 (gk_X14 D I) (Nat.le_of_ble_eq_true rfl) wr_9_40 rfl ?_
  refine Gw_callI (As := [.int p674259]) (gV_ok D I) (cp_674293_Wrong_init l hl0 D I P674272 F674273 q674271 p674259 0 0 hm674283 he674280 (gB_w (gBl (show Int32.toInt 0 = 0 by decide)) (by decide) (by decide))) dr_cX14_no_8 ⟨wr_9_110, wr_1_37, wr_9_112, by decide, rfl, (Nat.le_of_ble_eq_true rfl), (Nat.le_of_ble_eq_true rfl)⟩ wr_9_111 rfl (show 1 + 0 ≤ 1 by first | omega | decide) (show 7 + 0 ≤ 7 by first | omega | decide) (Nat.le_of_ble_eq_true rfl) (fun r674482 w674483 dc674479 ds674480 hp674481 => ?_)
  obtain ⟨F674484, rfl, rfl, hfr674486, he674487, hdc, hds⟩ := hp674481
  have he674488 : F674484 q674254 = .inr (19, [.ref q674255, .int p674256, .int p674257, .int p674258, .int p674259, .int p674260, .int p674261, .ref qo674262, .int p674263, .int p674264, .int p674265, .ref qo674266, .ref qo674267, .int p674268]) := (hfr674486 q674254 hm674281 (nm_c (fun h => hq674284 (h ▸ hmq674254)) nm_n)).trans he674278
  have he674489 : F674484 q674255 = .inl (I .byte, 8192, .inl f674269) := (hfr674486 q674255 hm674282 (nm_c (fun h => hq674284 (h ▸ hmq674255)) nm_n)).trans he674279
  have hfr674490 : rFr [] P674252 F674253 F674484 := rFr_call hsb674286 hfr674285 hfr674486 (fun b hb hn => ⟨nm_n, (nm_c (fun e => hq674284 (e ▸ hb)) nm_n)⟩)
  change G _ _ _ _ _ _ _ _ _ _ _
  refine G_widen (cs' := 1) (sl' := 7) (by omega) (by omega) ?_
  exact G_aretA (FieldType.object "SpillForgeModel$Wrong") dr_cX14_no_11 rfl (by first | exact Or.inl ⟨_, rfl⟩ | exact Or.inr ⟨_, rfl⟩) (Or.inr ⟨_, rfl⟩) (Nat.le_of_ble_eq_true rfl) (Nat.le_of_ble_eq_true rfl) ⟨P674272, F674484, q674271, rfl, rfl, hsb674286, hfr674490, he674488, he674489, he674487, hm674283, hq674284, (Nat.le_of_ble_eq_true rfl), (Nat.le_of_ble_eq_true rfl)⟩
/- tr_RReader_is: result -/
def tr_RReader_is (bs : List Int32) (a0_kind : Int32) (xt : gTx) (o1 : Int32) : Prop := ∀ R : (Int32) → Prop,
  (a0_kind.toInt = 5 → tr_RString_equals bs xt.2 xt.1 (0 : Int32) → R (0 : Int32)) →
  (a0_kind.toInt = 5 → tr_RString_equals bs xt.2 xt.1 (1 : Int32) → R (1 : Int32)) →
  (a0_kind.toInt ≠ 5 → a0_kind.toInt ≠ 1 → R (0 : Int32)) →
  (a0_kind.toInt ≠ 5 → a0_kind.toInt = 1 → tr_RString_equals bs xt.2 xt.1 (0 : Int32) → R (0 : Int32)) →
  (a0_kind.toInt ≠ 5 → a0_kind.toInt = 1 → tr_RString_equals bs xt.2 xt.1 (1 : Int32) → R (1 : Int32)) →
  R o1
abbrev ky_674517_Reader_is : gKey := (cX14_is, 2, "SpillForgeModel$Reader", (some FieldType.boolean), [], "is", fun _ _ => True)
def pp_674517_Reader_is (D : va_G) (I : FieldType → ClassId) (P674494 : List Nat) (F674495 : Nat → va_E) (q674496 : Nat) (q674497 : Nat) (qs674498 : Nat) (qb674499 : Nat) (bs674500 : List Int32) (p674501 : Int32) (p674502 : Int32) (p674503 : Int32) (p674504 : Int32) (p674505 : Int32) (p674506 : Int32) (qo674507 : Nat) (p674508 : Int32) (p674509 : Int32) (p674510 : Int32) (qo674511 : Nat) (qo674512 : Nat) (p674513 : Int32) (f674514 : Nat → Int32) (xt674515 : gTx) : Option Value → va_W → Nat → Nat → Prop := fun r w dc ds => ∃ (o674572 : Int32), r = some (.int o674572) ∧ w = va_pl P674494 F674495 ∧ dc ≤ 0 ∧ ds ≤ 0 ∧ gB o674572 0 1 ∧ isK p674503 o674572 ∧ tr_RReader_is bs674500 p674503 xt674515 o674572
set_option maxRecDepth 100000 in
set_option maxHeartbeats 4000000 in
theorem cp_674517_Reader_is (l : Launch) (hl0 : l.stackTraces = false) (D : va_G) (I : FieldType → ClassId) (P674494 : List Nat) (F674495 : Nat → va_E) (q674496 : Nat) (q674497 : Nat) (qs674498 : Nat) (qb674499 : Nat) (bs674500 : List Int32) (p674501 : Int32) (p674502 : Int32) (p674503 : Int32) (p674504 : Int32) (p674505 : Int32) (p674506 : Int32) (qo674507 : Nat) (p674508 : Int32) (p674509 : Int32) (p674510 : Int32) (qo674511 : Nat) (qo674512 : Nat) (p674513 : Int32) (f674514 : Nat → Int32) (xt674515 : gTx) (hmq674496 : q674496 ∈ P674494) (hmq674497 : q674497 ∈ P674494) (heq674496 : F674495 q674496 = .inr (19, [.ref q674497, .int p674501, .int p674502, .int p674503, .int p674504, .int p674505, .int p674506, .ref qo674507, .int p674508, .int p674509, .int p674510, .ref qo674511, .ref qo674512, .int p674513])) (heq674497 : F674495 q674497 = .inl (I .byte, 8192, .inl f674514)) (hbs674500 : ∀ A s H, (gV D I).2.2.2.1 A s H → gSC qs674498 qb674499 bs674500 A s H) (nbs674500 : (bs674500.length : Int) ≤ 65535) (lbs674500 : gLB bs674500) (bp674501 : gB p674501 0 8192) (bp674502 : gB p674502 0 8192) (bp674503 : gB p674503 0 6) (bp674504 : gB p674504 0 8192) (bp674506 : gB p674506 0 6) (bp674508 : gB p674508 (-1) 8192) (bp674509 : gB p674509 0 4) (bp674510 : gB p674510 0 1000000) (bp674513 : gB p674513 0 1000000) (bf674514 : gF f674514 (-128) 127) (x674516 : tP I P674494 F674495 p674503 qo674507 qo674512 qo674511 xt674515) : CtA (gV D I) l yX14_is cX14_is 2 (some FieldType.boolean) 2 44 0 0 [.ref q674496, .ref qs674498] (va_pl P674494 F674495) (pp_674517_Reader_is D I P674494 F674495 q674496 q674497 qs674498 qb674499 bs674500 p674501 p674502 p674503 p674504 p674505 p674506 qo674507 p674508 p674509 p674510 qo674511 qo674512 p674513 f674514 xt674515) gNA := by
  refine CtA_of hl0 (by decide) (Nat.le_of_ble_eq_true rfl) ?_
  have bp674505 := gB_any p674505
  refine G_aload_n 0 dr_cX14_is_0 rfl ?_
  refine Gp_get 3 hmq674496 heq674496 dr_cX14_is_1 (gk_X14 D I) (Nat.le_of_ble_eq_true rfl) wr_9_39 rfl ?_
  refine G_iconst 5 dr_cX14_is_4 (by decide +kernel) ?_
  refine G_icmp_eq 16 dr_cX14_is_5 (by decide +kernel) (fun hc674518 => ?_) (fun hc674518 => ?_)
  · have r674519 : p674503.toInt = 5 := gj_eq hc674518 (show Int32.toInt 5 = 5 by decide)
    have bp674503' : gB p674503 5 5 := ⟨by omega, by omega⟩
    refine G_aload_n 0 dr_cX14_is_16 rfl ?_
    refine Gp_get 7 hmq674496 heq674496 dr_cX14_is_17 (gk_X14 D I) (Nat.le_of_ble_eq_true rfl) wr_9_43 rfl ?_
    obtain ⟨q674520, p674521, p674522, hm674523, he674524, hm674525, he674526, bq674520, x674527, bp674522, hg674528, hg674529⟩ := x674516.2 (by omega)
    have bp674521 := gB_any p674521
    refine G_aload_n 1 dr_cX14_is_20 rfl ?_
    refine Gw_callV (As := [.ref qs674498]) (gV_ok D I) (cp_660187_String_equals l hl0 D I P674494 F674495 qo674507 q674520 qs674498 qb674499 bs674500 p674521 p674522 xt674515.2 xt674515.1 hm674523 hm674525 he674524 he674526 hbs674500 nbs674500 lbs674500 bp674522 bq674520 (by have qa0 : Int32.toInt 0 = 0 := (by decide); omega)) dr_cX14_is_21 ⟨wr_9_145, wr_1_21, wr_9_148, by decide, rfl, (Nat.le_of_ble_eq_true rfl), (Nat.le_of_ble_eq_true rfl)⟩ wr_9_146 wr_9_147 hm674523 he674524 rfl (show 0 + 0 ≤ 0 by first | omega | decide) (show 0 + 0 ≤ 0 by first | omega | decide) (Nat.le_of_ble_eq_true rfl) (fun r674533 w674534 dc674530 ds674531 hp674532 => ?_) (fun _ _ _ _ _ z => z.elim)
    rcases hp674532 with ⟨o674535, rfl, rfl, hdc, hds, r674536, r674537, r674538⟩ | ⟨o674539, rfl, rfl, hdc, hds, r674540, r674541, r674542⟩
    · change G _ _ _ _ _ _ _ (.int 0 :: _) _ _ _
      refine G_widen (cs' := 0) (sl' := 0) (by omega) (by omega) ?_
      refine G_if_eq 31 dr_cX14_is_24 (by decide +kernel) (fun _ => ?_) (fun hc => absurd hc (by decide))
      refine G_iconst 0 dr_cX14_is_31 (by decide +kernel) ?_
      exact G_zretA FieldType.boolean dr_cX14_is_32 rfl rfl (Nat.le_of_ble_eq_true rfl) (Nat.le_of_ble_eq_true rfl) ⟨0, rfl, rfl, (Nat.le_of_ble_eq_true rfl), (Nat.le_of_ble_eq_true rfl), (gB_w (gBl (show Int32.toInt 0 = 0 by decide)) (by decide) (by decide)), (Or.inl (by decide)), (fun R c1 c2 c3 c4 c5 => c1 r674519 r674538)⟩
    · change G _ _ _ _ _ _ _ (.int 1 :: _) _ _ _
      refine G_widen (cs' := 0) (sl' := 0) (by omega) (by omega) ?_
      refine G_if_eq 31 dr_cX14_is_24 (by decide +kernel) (fun hc => absurd hc (by decide)) (fun _ => ?_)
      refine G_iconst 1 dr_cX14_is_27 (by decide +kernel) ?_
      refine G_goto 32 dr_cX14_is_28 (by decide +kernel) ?_
      exact G_zretA FieldType.boolean dr_cX14_is_32 rfl rfl (Nat.le_of_ble_eq_true rfl) (Nat.le_of_ble_eq_true rfl) ⟨1, rfl, rfl, (Nat.le_of_ble_eq_true rfl), (Nat.le_of_ble_eq_true rfl), (gB_w (gBl (show Int32.toInt 1 = 1 by decide)) (by decide) (by decide)), (Or.inr (by omega)), (fun R c1 c2 c3 c4 c5 => c2 r674519 r674542)⟩
  · have r674544 : p674503.toInt ≠ 5 := gj_neq hc674518 (show Int32.toInt 5 = 5 by decide)
    refine G_aload_n 0 dr_cX14_is_8 rfl ?_
    refine Gp_get 3 hmq674496 heq674496 dr_cX14_is_9 (gk_X14 D I) (Nat.le_of_ble_eq_true rfl) wr_9_39 rfl ?_
    refine G_iconst 1 dr_cX14_is_12 (by decide +kernel) ?_
    refine G_icmp_ne 31 dr_cX14_is_13 (by decide +kernel) (fun hc674545 => ?_) (fun hc674545 => ?_)
    · have r674546 : p674503.toInt ≠ 1 := gj_neq hc674545 (show Int32.toInt 1 = 1 by decide)
      refine G_iconst 0 dr_cX14_is_31 (by decide +kernel) ?_
      exact G_zretA FieldType.boolean dr_cX14_is_32 rfl rfl (Nat.le_of_ble_eq_true rfl) (Nat.le_of_ble_eq_true rfl) ⟨0, rfl, rfl, (Nat.le_of_ble_eq_true rfl), (Nat.le_of_ble_eq_true rfl), (gB_w (gBl (show Int32.toInt 0 = 0 by decide)) (by decide) (by decide)), (Or.inl (by decide)), (fun R c1 c2 c3 c4 c5 => c3 r674544 r674546)⟩
    · have r674547 : p674503.toInt = 1 := gj_eq hc674545 (show Int32.toInt 1 = 1 by decide)
      have bp674503' : gB p674503 1 1 := ⟨by omega, by omega⟩
      refine G_aload_n 0 dr_cX14_is_16 rfl ?_
      refine Gp_get 7 hmq674496 heq674496 dr_cX14_is_17 (gk_X14 D I) (Nat.le_of_ble_eq_true rfl) wr_9_43 rfl ?_
      obtain ⟨q674548, p674549, p674550, hm674551, he674552, hm674553, he674554, bq674548, x674555, bp674550, hg674556, hg674557⟩ := x674516.1 (by omega)
      have bp674549 := gB_any p674549
      refine G_aload_n 1 dr_cX14_is_20 rfl ?_
      refine Gw_callV (As := [.ref qs674498]) (gV_ok D I) (cp_660187_String_equals l hl0 D I P674494 F674495 qo674507 q674548 qs674498 qb674499 bs674500 p674549 p674550 xt674515.2 xt674515.1 hm674551 hm674553 he674552 he674554 hbs674500 nbs674500 lbs674500 bp674550 bq674548 (by have qa0 : Int32.toInt 0 = 0 := (by decide); omega)) dr_cX14_is_21 ⟨wr_9_145, wr_1_21, wr_9_148, by decide, rfl, (Nat.le_of_ble_eq_true rfl), (Nat.le_of_ble_eq_true rfl)⟩ wr_9_146 wr_9_147 hm674551 he674552 rfl (show 0 + 0 ≤ 0 by first | omega | decide) (show 0 + 0 ≤ 0 by first | omega | decide) (Nat.le_of_ble_eq_true rfl) (fun r674561 w674562 dc674558 ds674559 hp674560 => ?_) (fun _ _ _ _ _ z => z.elim)
      rcases hp674560 with ⟨o674563, rfl, rfl, hdc, hds, r674564, r674565, r674566⟩ | ⟨o674567, rfl, rfl, hdc, hds, r674568, r674569, r674570⟩
      · change G _ _ _ _ _ _ _ (.int 0 :: _) _ _ _
        refine G_widen (cs' := 0) (sl' := 0) (by omega) (by omega) ?_
        refine G_if_eq 31 dr_cX14_is_24 (by decide +kernel) (fun _ => ?_) (fun hc => absurd hc (by decide))
        refine G_iconst 0 dr_cX14_is_31 (by decide +kernel) ?_
        exact G_zretA FieldType.boolean dr_cX14_is_32 rfl rfl (Nat.le_of_ble_eq_true rfl) (Nat.le_of_ble_eq_true rfl) ⟨0, rfl, rfl, (Nat.le_of_ble_eq_true rfl), (Nat.le_of_ble_eq_true rfl), (gB_w (gBl (show Int32.toInt 0 = 0 by decide)) (by decide) (by decide)), (Or.inl (by decide)), (fun R c1 c2 c3 c4 c5 => c4 r674544 r674547 r674566)⟩
      · change G _ _ _ _ _ _ _ (.int 1 :: _) _ _ _
        refine G_widen (cs' := 0) (sl' := 0) (by omega) (by omega) ?_
        refine G_if_eq 31 dr_cX14_is_24 (by decide +kernel) (fun hc => absurd hc (by decide)) (fun _ => ?_)
        refine G_iconst 1 dr_cX14_is_27 (by decide +kernel) ?_
        refine G_goto 32 dr_cX14_is_28 (by decide +kernel) ?_
        exact G_zretA FieldType.boolean dr_cX14_is_32 rfl rfl (Nat.le_of_ble_eq_true rfl) (Nat.le_of_ble_eq_true rfl) ⟨1, rfl, rfl, (Nat.le_of_ble_eq_true rfl), (Nat.le_of_ble_eq_true rfl), (gB_w (gBl (show Int32.toInt 1 = 1 by decide)) (by decide) (by decide)), (Or.inr (by omega)), (fun R c1 c2 c3 c4 c5 => c5 r674544 r674547 r674570)⟩
/- tr_RReader_want: a.0...at, a.0...kind, a.0...place, a.0...value -/
def tr_RReader_want (bs : List Int32) (a0_n : Int32) (a0_at : Int32) (a0_kind : Int32) (a0_value : Int32) (a0_t_v : Nat → Int32) (xt : gTx) (o1 : Int32) (o2 : Int32) (o3 : Int32) (o4 : Int32) (o5 : gTx) : Prop := ∀ R : (Int32) → (Int32) → (Int32) → (Int32) → (gTx) → Prop,
  (∀ (x1 : Int32) (x2 : gTx) (x3 : Int32) (x4 : Int32) (x5 : Int32) (x6 : Int32), gB x1 0 1 → tr_RReader_is bs a0_kind xt x1 → x1.toInt ≠ 0 → gB x3 0 8192 → gB x4 0 6 → gB x5 0 8192 → tr_RReader_next a0_n a0_at a0_kind a0_value a0_t_v x3 x4 x5 x6 x2 → R x3 x4 x5 x6 x2) →
  R o1 o2 o3 o4 o5
/- tx_RReader_want: throws -/
def tx_RReader_want (bs : List Int32) (a0_kind : Int32) (xt : gTx) : Prop := ∀ R : Prop,
  (∀ (x1 : Int32), gB x1 0 1 → tr_RReader_is bs a0_kind xt x1 → x1.toInt = 0 → R) →
  R
abbrev ky_674599_Reader_want : gKey := (cX14_want, 2, "SpillForgeModel$Reader", none, [], "want", fun _ _ => True)
def pp_674599_Reader_want (D : va_G) (I : FieldType → ClassId) (P674573 : List Nat) (F674574 : Nat → va_E) (q674575 : Nat) (q674576 : Nat) (qs674577 : Nat) (qb674578 : Nat) (bs674579 : List Int32) (p674580 : Int32) (p674581 : Int32) (p674582 : Int32) (p674583 : Int32) (p674584 : Int32) (p674585 : Int32) (qo674586 : Nat) (p674587 : Int32) (p674588 : Int32) (p674589 : Int32) (qo674590 : Nat) (qo674591 : Nat) (p674592 : Int32) (f674593 : Nat → Int32) (xt674594 : gTx) : Option Value → va_W → Nat → Nat → Prop := fun r w dc ds => ∃ (P674664 : List Nat) (F674665 : Nat → va_E) (o674659 : Int32) (o674660 : Int32) (o674661 : Int32) (o674662 : Int32) (q674663 : Nat) (xt674666 : gTx), r = none ∧ w = va_pl P674664 F674665 ∧ rSub P674573 P674664 ∧ rFr [q674575] P674573 F674574 F674665 ∧ F674665 q674575 = .inr (19, [.ref q674576, .int p674580, .int o674659, .int o674660, .int o674661, .int o674662, .int p674582, .ref q674663, .int p674587, .int p674588, .int p674589, .ref qo674590, .ref qo674591, .int p674592]) ∧ F674665 q674576 = .inl (I .byte, 8192, .inl f674593) ∧ dc ≤ (16 * (o674659.toInt - p674581.toInt)).toNat ∧ ds ≤ (160 * (o674659.toInt - p674581.toInt)).toNat ∧ gB o674659 0 8192 ∧ gB o674660 0 6 ∧ gB o674661 0 8192 ∧ p674581.toInt ≤ o674659.toInt ∧ prP o674660 p674581 o674659 ∧ o674659.toInt ≤ p674580.toInt ∧ tP I P674664 F674665 o674660 q674663 qo674591 qo674590 xt674666 ∧ vP o674660 o674662 ∧ nzK p674582 ∧ tr_RReader_want bs674579 p674580 p674581 p674582 p674584 f674593 xt674594 o674659 o674660 o674661 o674662 xt674666
def xp_674599_Reader_want (D : va_G) (I : FieldType → ClassId) (P674573 : List Nat) (F674574 : Nat → va_E) (q674575 : Nat) (q674576 : Nat) (qs674577 : Nat) (qb674578 : Nat) (bs674579 : List Int32) (p674580 : Int32) (p674581 : Int32) (p674582 : Int32) (p674583 : Int32) (p674584 : Int32) (p674585 : Int32) (qo674586 : Nat) (p674587 : Int32) (p674588 : Int32) (p674589 : Int32) (qo674590 : Nat) (qo674591 : Nat) (p674592 : Int32) (f674593 : Nat → Int32) (xt674594 : gTx) : String → Nat → va_W → Nat → Nat → Prop := fun E q w dc ds => ∃ (P674668 : List Nat) (F674667 : Nat → va_E), E = "SpillForgeModel$Wrong" ∧ w = va_pl P674668 F674667 ∧ rSub P674573 P674668 ∧ rFr [] P674573 F674574 F674667 ∧ q ∈ P674668 ∧ q ∉ P674573 ∧ wrF F674667 q ∧ dc ≤ (16 * (p674580.toInt - p674581.toInt)).toNat + 1 ∧ ds ≤ (160 * (p674580.toInt - p674581.toInt)).toNat + 7 ∧ tx_RReader_want bs674579 p674582 xt674594
set_option maxRecDepth 100000 in
set_option maxHeartbeats 4000000 in
theorem cp_674599_Reader_want (l : Launch) (hl0 : l.stackTraces = false) (D : va_G) (I : FieldType → ClassId) (P674573 : List Nat) (F674574 : Nat → va_E) (q674575 : Nat) (q674576 : Nat) (qs674577 : Nat) (qb674578 : Nat) (bs674579 : List Int32) (p674580 : Int32) (p674581 : Int32) (p674582 : Int32) (p674583 : Int32) (p674584 : Int32) (p674585 : Int32) (qo674586 : Nat) (p674587 : Int32) (p674588 : Int32) (p674589 : Int32) (qo674590 : Nat) (qo674591 : Nat) (p674592 : Int32) (f674593 : Nat → Int32) (xt674594 : gTx) (hmq674575 : q674575 ∈ P674573) (hmq674576 : q674576 ∈ P674573) (heq674575 : F674574 q674575 = .inr (19, [.ref q674576, .int p674580, .int p674581, .int p674582, .int p674583, .int p674584, .int p674585, .ref qo674586, .int p674587, .int p674588, .int p674589, .ref qo674590, .ref qo674591, .int p674592])) (heq674576 : F674574 q674576 = .inl (I .byte, 8192, .inl f674593)) (hbs674579 : ∀ A s H, (gV D I).2.2.2.1 A s H → gSC qs674577 qb674578 bs674579 A s H) (nbs674579 : (bs674579.length : Int) ≤ 65535) (lbs674579 : gLB bs674579) (bp674580 : gB p674580 0 8192) (bp674581 : gB p674581 0 8192) (bp674582 : gB p674582 0 6) (bp674583 : gB p674583 0 8192) (bp674585 : gB p674585 0 6) (bp674587 : gB p674587 (-1) 8192) (bp674588 : gB p674588 0 4) (bp674589 : gB p674589 0 1000000) (bp674592 : gB p674592 0 1000000) (bf674593 : gF f674593 (-128) 127) (x674595 : p674581.toInt ≤ p674580.toInt) (x674596 : qo674591 ∈ P674573) (x674597 : qo674590 ∈ P674573) (x674598 : tP I P674573 F674574 p674582 qo674586 qo674591 qo674590 xt674594) : CtA (gV D I) l yX14_want cX14_want 2 none 8 177 ((16 * (p674580.toInt - p674581.toInt)).toNat + 1) ((160 * (p674580.toInt - p674581.toInt)).toNat + 7) [.ref q674575, .ref qs674577] (va_pl P674573 F674574) (pp_674599_Reader_want D I P674573 F674574 q674575 q674576 qs674577 qb674578 bs674579 p674580 p674581 p674582 p674583 p674584 p674585 qo674586 p674587 p674588 p674589 qo674590 qo674591 p674592 f674593 xt674594) (xp_674599_Reader_want D I P674573 F674574 q674575 q674576 qs674577 qb674578 bs674579 p674580 p674581 p674582 p674583 p674584 p674585 qo674586 p674587 p674588 p674589 qo674590 qo674591 p674592 f674593 xt674594) := by
  refine CtA_of hl0 (by decide) (Nat.le_of_ble_eq_true rfl) ?_
  have bp674584 := gB_any p674584
  refine G_aload_n 0 dr_cX14_want_0 rfl ?_
  refine G_aload_n 1 dr_cX14_want_1 rfl ?_
  refine Gw_callV (As := [.ref qs674577]) (gV_ok D I) (cp_674517_Reader_is l hl0 D I P674573 F674574 q674575 q674576 qs674577 qb674578 bs674579 p674580 p674581 p674582 p674583 p674584 p674585 qo674586 p674587 p674588 p674589 qo674590 qo674591 p674592 f674593 xt674594 hmq674575 hmq674576 heq674575 heq674576 hbs674579 nbs674579 lbs674579 bp674580 bp674581 bp674582 bp674583 bp674585 bp674587 bp674588 bp674589 bp674592 bf674593 x674598) dr_cX14_want_2 ⟨wr_9_141, wr_1_32, wr_9_144, by decide, rfl, (Nat.le_of_ble_eq_true rfl), (Nat.le_of_ble_eq_true rfl)⟩ wr_9_143 wr_p_84 hmq674575 heq674575 rfl (show 0 + 0 ≤ ((16 * (p674580.toInt - p674581.toInt)).toNat + 1) by first | omega | decide) (show 0 + 0 ≤ ((160 * (p674580.toInt - p674581.toInt)).toNat + 7) by first | omega | decide) (Nat.le_of_ble_eq_true rfl) (fun r674603 w674604 dc674600 ds674601 hp674602 => ?_) (fun _ _ _ _ _ z => z.elim)
  obtain ⟨o674605, rfl, rfl, hdc, hds, bo674605, x674606, ht674607⟩ := hp674602
  change G _ _ _ _ _ _ _ (.int o674605 :: _) _ _ _
  refine G_widen (cs' := 0) (sl' := 0) (by omega) (by omega) ?_
  refine G_if_ne 13 dr_cX14_want_5 (by decide +kernel) (fun hc674608 => ?_) (fun hc674608 => ?_)
  · have r674609 : o674605.toInt ≠ 0 := gj_neq hc674608 (show Int32.toInt 0 = 0 by decide)
    have bo674605' : gB o674605 1 1 := ⟨by omega, by omega⟩
    refine G_aload_n 0 dr_cX14_want_13 rfl ?_
    refine Gw_callV (As := []) (gV_ok D I) (cp_672530_Reader_next l hl0 D I P674573 F674574 q674575 q674576 p674580 p674581 p674582 p674583 p674584 p674585 qo674586 p674587 p674588 p674589 qo674590 qo674591 p674592 f674593 hmq674575 hmq674576 heq674575 heq674576 bp674580 bp674581 bp674582 bp674583 bp674585 bp674587 bp674588 bp674589 bp674592 bf674593 (by omega) x674596 x674597) dr_cX14_want_14 ⟨wr_7_215, wr_1_32, wr_7_218, by decide, rfl, (Nat.le_of_ble_eq_true rfl), (Nat.le_of_ble_eq_true rfl)⟩ wr_7_217 wr_p_75 hmq674575 heq674575 rfl (show 0 + ((16 * (p674580.toInt - p674581.toInt)).toNat) ≤ ((16 * (p674580.toInt - p674581.toInt)).toNat + 1) by first | omega | decide) (show 0 + ((160 * (p674580.toInt - p674581.toInt)).toNat) ≤ ((160 * (p674580.toInt - p674581.toInt)).toNat + 7) by first | omega | decide) (Nat.le_of_ble_eq_true rfl) (fun r674613 w674614 dc674610 ds674611 hp674612 => ?_) (fun _ _ _ _ _ z => z.elim)
    obtain ⟨P674627, F674628, o674615, o674616, o674617, o674618, q674619, xt674626, rfl, rfl, hsb674629, hfr674630, he674631, he674632, hdc, hds, bo674615, bo674616, bo674617, x674620, x674621, x674622, x674623, x674624, ht674625⟩ := hp674612
    have hm674633 : q674575 ∈ P674627 := hsb674629 q674575 hmq674575
    have hm674634 : q674576 ∈ P674627 := hsb674629 q674576 hmq674576
    have hsb674635 : rSub P674573 P674627 := rSub_tr (rSub_rf (P := P674573)) hsb674629
    have hfr674636 : rFr [q674575] P674573 F674574 F674628 := rFr_call (rSub_rf (P := P674573)) (rFr_rf (W := []) (P := P674573) (F := F674574)) hfr674630 (fun b hb hn => ⟨nm_n, (nm_c (fun e => hn (e ▸ List.mem_cons_self)) nm_n)⟩)
    have bo674618 := gB_any o674618
    change G _ _ _ _ _ _ _ _ _ _ _
    refine G_widen (cs' := (16 * (o674615.toInt - p674581.toInt)).toNat) (sl' := (160 * (o674615.toInt - p674581.toInt)).toNat) (by omega) (by omega) ?_
    exact G_vretA dr_cX14_want_17 rfl (show (16 * (o674615.toInt - p674581.toInt)).toNat ≤ ((16 * (p674580.toInt - p674581.toInt)).toNat + 1) by omega) (show (160 * (o674615.toInt - p674581.toInt)).toNat ≤ ((160 * (p674580.toInt - p674581.toInt)).toNat + 7) by omega) ⟨P674627, F674628, o674615, o674616, o674617, o674618, q674619, xt674626, rfl, rfl, hsb674635, hfr674636, he674631, he674632, (by omega), (by omega), bo674615, bo674616, bo674617, (by omega), x674621, (by omega), x674623, x674624, (isK_1 x674606 (by omega)), (fun R c1 => c1 o674605 xt674626 o674615 o674616 o674617 o674618 bo674605 ht674607 r674609 bo674615 bo674616 bo674617 ht674625)⟩
  · have r674637 : o674605.toInt = 0 := gj_eq hc674608 (show Int32.toInt 0 = 0 by decide)
    have bo674605' : gB o674605 0 0 := ⟨by omega, by omega⟩
    refine G_aload_n 0 dr_cX14_want_8 rfl ?_
    refine Gw_callV (As := []) (gV_ok D I) (cp_674270_Reader_no l hl0 D I P674573 F674574 q674575 q674576 p674580 p674581 p674582 p674583 p674584 p674585 qo674586 p674587 p674588 p674589 qo674590 qo674591 p674592 f674593 hmq674575 hmq674576 heq674575 heq674576 bp674580 bp674581 bp674582 bp674583 bp674585 bp674587 bp674588 bp674589 bp674592 bf674593) dr_cX14_want_9 ⟨wr_9_97, wr_1_32, wr_9_100, by decide, rfl, (Nat.le_of_ble_eq_true rfl), (Nat.le_of_ble_eq_true rfl)⟩ wr_9_99 wr_p_81 hmq674575 heq674575 rfl (show 0 + 1 ≤ ((16 * (p674580.toInt - p674581.toInt)).toNat + 1) by first | omega | decide) (show 0 + 7 ≤ ((160 * (p674580.toInt - p674581.toInt)).toNat + 7) by first | omega | decide) (Nat.le_of_ble_eq_true rfl) (fun r674641 w674642 dc674638 ds674639 hp674640 => ?_) (fun _ _ _ _ _ z => z.elim)
    obtain ⟨P674644, F674645, q674643, rfl, rfl, hsb674646, hfr674647, he674648, he674649, he674650, hm674651, hq674652, hdc, hds⟩ := hp674640
    have hm674653 : q674575 ∈ P674644 := hsb674646 q674575 hmq674575
    have hm674654 : q674576 ∈ P674644 := hsb674646 q674576 hmq674576
    have hq674655 : q674643 ∉ P674573 := fun z => hq674652 ((rSub_rf (P := P674573)) q674643 z)
    have hsb674656 : rSub P674573 P674644 := rSub_tr (rSub_rf (P := P674573)) hsb674646
    have hfr674657 : rFr [] P674573 F674574 F674645 := rFr_call (rSub_rf (P := P674573)) (rFr_rf (W := []) (P := P674573) (F := F674574)) hfr674647 (fun b hb hn => ⟨nm_n, nm_n⟩)
    have tp674658 : tP I P674644 F674645 p674582 qo674586 qo674591 qo674590 xt674594 := tP_new x674598 hsb674646 (fun b hb => hfr674647 b hb (fun z => by cases z)) (Or.inl rfl) (Or.inl rfl)
    change G _ _ _ _ _ _ _ (.ref q674643 :: _) _ _ _
    refine G_widen (cs' := 1) (sl' := 7) (by omega) (by omega) ?_
    exact Gp_athrow hm674651 he674650 rfl dr_cX14_want_12 (GT_outA rfl (show 1 ≤ ((16 * (p674580.toInt - p674581.toInt)).toNat + 1) by omega) (show 7 ≤ ((160 * (p674580.toInt - p674581.toInt)).toNat + 7) by omega) ⟨P674644, F674645, rfl, rfl, hsb674656, hfr674657, hm674651, hq674655, ⟨_, _, _, _, _, _, _, he674650, by omega⟩, (by omega), (by omega), (fun R c1 => c1 o674605 bo674605 ht674607 r674637)⟩)
/- tr_RReader_want2: a.0...at, a.0...kind, a.0...place, a.0...value -/
def tr_RReader_want2 (a1 : Int32) (a0_n : Int32) (a0_at : Int32) (a0_kind : Int32) (a0_value : Int32) (a0_t_v : Nat → Int32) (o1 : Int32) (o2 : Int32) (o3 : Int32) (o4 : Int32) (o5 : gTx) : Prop := ∀ R : (Int32) → (Int32) → (Int32) → (Int32) → (gTx) → Prop,
  (∀ (x1 : gTx) (x2 : Int32) (x3 : Int32) (x4 : Int32) (x5 : Int32), a0_kind.toInt = a1.toInt → gB x2 0 8192 → gB x3 0 6 → gB x4 0 8192 → tr_RReader_next a0_n a0_at a0_kind a0_value a0_t_v x2 x3 x4 x5 x1 → R x2 x3 x4 x5 x1) →
  R o1 o2 o3 o4 o5
/- tx_RReader_want2: throws -/
def tx_RReader_want2 (a1 : Int32) (a0_kind : Int32) : Prop := ∀ R : Prop,
  (a0_kind.toInt ≠ a1.toInt → R) →
  R
abbrev ky_674694_Reader_want : gKey := (cX14_want_, 3, "SpillForgeModel$Reader", (some FieldType.int), [], "want", fun _ _ => True)
def pp_674694_Reader_want (D : va_G) (I : FieldType → ClassId) (P674669 : List Nat) (F674670 : Nat → va_E) (q674671 : Nat) (q674672 : Nat) (p674673 : Int32) (p674674 : Int32) (p674675 : Int32) (p674676 : Int32) (p674677 : Int32) (p674678 : Int32) (p674679 : Int32) (qo674680 : Nat) (p674681 : Int32) (p674682 : Int32) (p674683 : Int32) (qo674684 : Nat) (qo674685 : Nat) (p674686 : Int32) (f674687 : Nat → Int32) (xt674688 : gTx) : Option Value → va_W → Nat → Nat → Prop := fun r w dc ds => ∃ (P674751 : List Nat) (F674752 : Nat → va_E) (o674746 : Int32) (o674747 : Int32) (o674748 : Int32) (o674749 : Int32) (q674750 : Nat) (xt674753 : gTx), r = some (.int p674678) ∧ w = va_pl P674751 F674752 ∧ rSub P674669 P674751 ∧ rFr [q674671] P674669 F674670 F674752 ∧ F674752 q674671 = .inr (19, [.ref q674672, .int p674674, .int o674746, .int o674747, .int o674748, .int o674749, .int p674676, .ref q674750, .int p674681, .int p674682, .int p674683, .ref qo674684, .ref qo674685, .int p674686]) ∧ F674752 q674672 = .inl (I .byte, 8192, .inl f674687) ∧ dc ≤ (16 * (o674746.toInt - p674675.toInt)).toNat ∧ ds ≤ (160 * (o674746.toInt - p674675.toInt)).toNat ∧ gB o674746 0 8192 ∧ gB o674747 0 6 ∧ gB o674748 0 8192 ∧ p674675.toInt ≤ o674746.toInt ∧ prP o674747 p674675 o674746 ∧ o674746.toInt ≤ p674674.toInt ∧ tP I P674751 F674752 o674747 q674750 qo674685 qo674684 xt674753 ∧ vP o674747 o674749 ∧ vP p674673 p674678 ∧ p674676.toInt = p674673.toInt ∧ tr_RReader_want2 p674673 p674674 p674675 p674676 p674678 f674687 o674746 o674747 o674748 o674749 xt674753
def xp_674694_Reader_want (D : va_G) (I : FieldType → ClassId) (P674669 : List Nat) (F674670 : Nat → va_E) (q674671 : Nat) (q674672 : Nat) (p674673 : Int32) (p674674 : Int32) (p674675 : Int32) (p674676 : Int32) (p674677 : Int32) (p674678 : Int32) (p674679 : Int32) (qo674680 : Nat) (p674681 : Int32) (p674682 : Int32) (p674683 : Int32) (qo674684 : Nat) (qo674685 : Nat) (p674686 : Int32) (f674687 : Nat → Int32) (xt674688 : gTx) : String → Nat → va_W → Nat → Nat → Prop := fun E q w dc ds => ∃ (P674755 : List Nat) (F674754 : Nat → va_E), E = "SpillForgeModel$Wrong" ∧ w = va_pl P674755 F674754 ∧ rSub P674669 P674755 ∧ rFr [] P674669 F674670 F674754 ∧ q ∈ P674755 ∧ q ∉ P674669 ∧ wrF F674754 q ∧ dc ≤ (16 * (p674674.toInt - p674675.toInt)).toNat + 1 ∧ ds ≤ (160 * (p674674.toInt - p674675.toInt)).toNat + 7 ∧ tx_RReader_want2 p674673 p674676
set_option maxRecDepth 100000 in
set_option maxHeartbeats 4000000 in
theorem cp_674694_Reader_want (l : Launch) (hl0 : l.stackTraces = false) (D : va_G) (I : FieldType → ClassId) (P674669 : List Nat) (F674670 : Nat → va_E) (q674671 : Nat) (q674672 : Nat) (p674673 : Int32) (p674674 : Int32) (p674675 : Int32) (p674676 : Int32) (p674677 : Int32) (p674678 : Int32) (p674679 : Int32) (qo674680 : Nat) (p674681 : Int32) (p674682 : Int32) (p674683 : Int32) (qo674684 : Nat) (qo674685 : Nat) (p674686 : Int32) (f674687 : Nat → Int32) (xt674688 : gTx) (hmq674671 : q674671 ∈ P674669) (hmq674672 : q674672 ∈ P674669) (heq674671 : F674670 q674671 = .inr (19, [.ref q674672, .int p674674, .int p674675, .int p674676, .int p674677, .int p674678, .int p674679, .ref qo674680, .int p674681, .int p674682, .int p674683, .ref qo674684, .ref qo674685, .int p674686])) (heq674672 : F674670 q674672 = .inl (I .byte, 8192, .inl f674687)) (bp674673 : gB p674673 0 6) (bp674674 : gB p674674 0 8192) (bp674675 : gB p674675 0 8192) (bp674676 : gB p674676 0 6) (bp674677 : gB p674677 0 8192) (bp674679 : gB p674679 0 6) (bp674681 : gB p674681 (-1) 8192) (bp674682 : gB p674682 0 4) (bp674683 : gB p674683 0 1000000) (bp674686 : gB p674686 0 1000000) (bf674687 : gF f674687 (-128) 127) (x674689 : p674675.toInt ≤ p674674.toInt) (x674690 : qo674685 ∈ P674669) (x674691 : qo674684 ∈ P674669) (x674692 : tP I P674669 F674670 p674676 qo674680 qo674685 qo674684 xt674688) (x674693 : vP p674676 p674678) : CtA (gV D I) l yX14_want_ cX14_want_ 3 (some FieldType.int) 8 177 ((16 * (p674674.toInt - p674675.toInt)).toNat + 1) ((160 * (p674674.toInt - p674675.toInt)).toNat + 7) [.ref q674671, .int p674673] (va_pl P674669 F674670) (pp_674694_Reader_want D I P674669 F674670 q674671 q674672 p674673 p674674 p674675 p674676 p674677 p674678 p674679 qo674680 p674681 p674682 p674683 qo674684 qo674685 p674686 f674687 xt674688) (xp_674694_Reader_want D I P674669 F674670 q674671 q674672 p674673 p674674 p674675 p674676 p674677 p674678 p674679 qo674680 p674681 p674682 p674683 qo674684 qo674685 p674686 f674687 xt674688) := by
  refine CtA_of hl0 (by decide) (Nat.le_of_ble_eq_true rfl) ?_
  have bp674678 := gB_any p674678
  refine G_aload_n 0 dr_cX14_want__0 rfl ?_
  refine Gp_get 3 hmq674671 heq674671 dr_cX14_want__1 (gk_X14 D I) (Nat.le_of_ble_eq_true rfl) wr_9_39 rfl ?_
  refine G_iload_n 1 dr_cX14_want__4 rfl ?_
  refine G_icmp_eq 13 dr_cX14_want__5 (by decide +kernel) (fun hc674695 => ?_) (fun hc674695 => ?_)
  · have r674696 : p674676.toInt = p674673.toInt := gC_eq hc674695
    refine G_aload_n 0 dr_cX14_want__13 rfl ?_
    refine Gp_get 5 hmq674671 heq674671 dr_cX14_want__14 (gk_X14 D I) (Nat.le_of_ble_eq_true rfl) wr_9_41 rfl ?_
    refine G_istore_n (L' := [(2, .int p674678), (0, .ref q674671), (1, .int p674673)]) dr_cX14_want__17 (Nat.le_of_ble_eq_true rfl) rfl ?_
    refine G_aload_n 1 dr_cX14_want__18 rfl ?_
    refine Gw_callV (As := []) (gV_ok D I) (cp_672530_Reader_next l hl0 D I P674669 F674670 q674671 q674672 p674674 p674675 p674676 p674677 p674678 p674679 qo674680 p674681 p674682 p674683 qo674684 qo674685 p674686 f674687 hmq674671 hmq674672 heq674671 heq674672 bp674674 bp674675 bp674676 bp674677 bp674679 bp674681 bp674682 bp674683 bp674686 bf674687 (by omega) x674690 x674691) dr_cX14_want__19 ⟨wr_7_215, wr_1_32, wr_7_218, by decide, rfl, (Nat.le_of_ble_eq_true rfl), (Nat.le_of_ble_eq_true rfl)⟩ wr_7_217 wr_p_75 hmq674671 heq674671 rfl (show 0 + ((16 * (p674674.toInt - p674675.toInt)).toNat) ≤ ((16 * (p674674.toInt - p674675.toInt)).toNat + 1) by first | omega | decide) (show 0 + ((160 * (p674674.toInt - p674675.toInt)).toNat) ≤ ((160 * (p674674.toInt - p674675.toInt)).toNat + 7) by first | omega | decide) (Nat.le_of_ble_eq_true rfl) (fun r674700 w674701 dc674697 ds674698 hp674699 => ?_) (fun _ _ _ _ _ z => z.elim)
    obtain ⟨P674714, F674715, o674702, o674703, o674704, o674705, q674706, xt674713, rfl, rfl, hsb674716, hfr674717, he674718, he674719, hdc, hds, bo674702, bo674703, bo674704, x674707, x674708, x674709, x674710, x674711, ht674712⟩ := hp674699
    have hm674720 : q674671 ∈ P674714 := hsb674716 q674671 hmq674671
    have hm674721 : q674672 ∈ P674714 := hsb674716 q674672 hmq674672
    have hsb674722 : rSub P674669 P674714 := rSub_tr (rSub_rf (P := P674669)) hsb674716
    have hfr674723 : rFr [q674671] P674669 F674670 F674715 := rFr_call (rSub_rf (P := P674669)) (rFr_rf (W := []) (P := P674669) (F := F674670)) hfr674717 (fun b hb hn => ⟨nm_n, (nm_c (fun e => hn (e ▸ List.mem_cons_self)) nm_n)⟩)
    have bo674705 := gB_any o674705
    change G _ _ _ _ _ _ _ _ _ _ _
    refine G_widen (cs' := (16 * (o674702.toInt - p674675.toInt)).toNat) (sl' := (160 * (o674702.toInt - p674675.toInt)).toNat) (by omega) (by omega) ?_
    refine G_iload_n 0 dr_cX14_want__22 rfl ?_
    exact G_iretA dr_cX14_want__23 rfl (show (16 * (o674702.toInt - p674675.toInt)).toNat ≤ ((16 * (p674674.toInt - p674675.toInt)).toNat + 1) by omega) (show (160 * (o674702.toInt - p674675.toInt)).toNat ≤ ((160 * (p674674.toInt - p674675.toInt)).toNat + 7) by omega) ⟨P674714, F674715, o674702, o674703, o674704, o674705, q674706, xt674713, rfl, rfl, hsb674722, hfr674723, he674718, he674719, (by omega), (by omega), bo674702, bo674703, bo674704, (by omega), x674708, (by omega), x674710, x674711, (vP_eq x674693 (by omega)), (by omega), (fun R c1 => c1 xt674713 o674702 o674703 o674704 o674705 r674696 bo674702 bo674703 bo674704 ht674712)⟩
  · have r674724 : p674676.toInt ≠ p674673.toInt := gC_ne hc674695
    refine G_aload_n 0 dr_cX14_want__8 rfl ?_
    refine Gw_callV (As := []) (gV_ok D I) (cp_674270_Reader_no l hl0 D I P674669 F674670 q674671 q674672 p674674 p674675 p674676 p674677 p674678 p674679 qo674680 p674681 p674682 p674683 qo674684 qo674685 p674686 f674687 hmq674671 hmq674672 heq674671 heq674672 bp674674 bp674675 bp674676 bp674677 bp674679 bp674681 bp674682 bp674683 bp674686 bf674687) dr_cX14_want__9 ⟨wr_9_97, wr_1_32, wr_9_100, by decide, rfl, (Nat.le_of_ble_eq_true rfl), (Nat.le_of_ble_eq_true rfl)⟩ wr_9_99 wr_p_81 hmq674671 heq674671 rfl (show 0 + 1 ≤ ((16 * (p674674.toInt - p674675.toInt)).toNat + 1) by first | omega | decide) (show 0 + 7 ≤ ((160 * (p674674.toInt - p674675.toInt)).toNat + 7) by first | omega | decide) (Nat.le_of_ble_eq_true rfl) (fun r674728 w674729 dc674725 ds674726 hp674727 => ?_) (fun _ _ _ _ _ z => z.elim)
    obtain ⟨P674731, F674732, q674730, rfl, rfl, hsb674733, hfr674734, he674735, he674736, he674737, hm674738, hq674739, hdc, hds⟩ := hp674727
    have hm674740 : q674671 ∈ P674731 := hsb674733 q674671 hmq674671
    have hm674741 : q674672 ∈ P674731 := hsb674733 q674672 hmq674672
    have hq674742 : q674730 ∉ P674669 := fun z => hq674739 ((rSub_rf (P := P674669)) q674730 z)
    have hsb674743 : rSub P674669 P674731 := rSub_tr (rSub_rf (P := P674669)) hsb674733
    have hfr674744 : rFr [] P674669 F674670 F674732 := rFr_call (rSub_rf (P := P674669)) (rFr_rf (W := []) (P := P674669) (F := F674670)) hfr674734 (fun b hb hn => ⟨nm_n, nm_n⟩)
    have tp674745 : tP I P674731 F674732 p674676 qo674680 qo674685 qo674684 xt674688 := tP_new x674692 hsb674733 (fun b hb => hfr674734 b hb (fun z => by cases z)) (Or.inl rfl) (Or.inl rfl)
    change G _ _ _ _ _ _ _ (.ref q674730 :: _) _ _ _
    refine G_widen (cs' := 1) (sl' := 7) (by omega) (by omega) ?_
    exact Gp_athrow hm674738 he674737 rfl dr_cX14_want__12 (GT_outA rfl (show 1 ≤ ((16 * (p674674.toInt - p674675.toInt)).toNat + 1) by omega) (show 7 ≤ ((160 * (p674674.toInt - p674675.toInt)).toNat + 7) by omega) ⟨P674731, F674732, rfl, rfl, hsb674743, hfr674744, hm674738, hq674742, ⟨_, _, _, _, _, _, _, he674737, by omega⟩, (by omega), (by omega), (fun R c1 => c1 r674724)⟩)
/- tr_RReader_breaks: a.0...rulePlace, a.0...rule -/
def tr_RReader_breaks (a1 : Int32) (a2 : Int32) (a0_rulePlace : Int32) (a0_rule : Int32) (o1 : Int32) (o2 : Int32) : Prop := ∀ R : (Int32) → (Int32) → Prop,
  (a0_rulePlace.toInt < 0 → R a2 a1) →
  (0 ≤ a0_rulePlace.toInt → a2.toInt < a0_rulePlace.toInt → R a2 a1) →
  (0 ≤ a0_rulePlace.toInt → a0_rulePlace.toInt ≤ a2.toInt → a2.toInt ≠ a0_rulePlace.toInt → R a0_rulePlace a0_rule) →
  (0 ≤ a0_rulePlace.toInt → a0_rulePlace.toInt ≤ a2.toInt → a2.toInt = a0_rulePlace.toInt → a0_rule.toInt ≤ a1.toInt → R a0_rulePlace a0_rule) →
  (0 ≤ a0_rulePlace.toInt → a0_rulePlace.toInt ≤ a2.toInt → a2.toInt = a0_rulePlace.toInt → a1.toInt < a0_rule.toInt → R a2 a1) →
  R o1 o2
