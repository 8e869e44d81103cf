theorem dr_cE_Throwable_init4_0 : decode cE_Throwable_init4 0 = .ok (.aload_n 0, 1) := by decide +kernel
theorem dr_cE_Throwable_init4_1 : decode cE_Throwable_init4 1 = .ok (.invokespecial 1, 3) := by decide +kernel
theorem wr_4_220 : (Jvm.Cond.methodLink "java/lang/Throwable" (1 : Nat) ({ cls := "java/lang/Object", name := "<init>", desc := "()V" } : Jvm.MethodName)) ∈ gw := gw_4 220 rfl rfl
theorem dr_cE_Throwable_init4_4 : decode cE_Throwable_init4 4 = .ok (.aload_n 0, 1) := by decide +kernel
theorem dr_cE_Throwable_init4_5 : decode cE_Throwable_init4 5 = .ok (.aload_n 0, 1) := by decide +kernel
theorem dr_cE_Throwable_init4_6 : decode cE_Throwable_init4 6 = .ok (.putfield 7, 3) := by decide +kernel
theorem wr_5_15 : (Jvm.Cond.fieldLink "java/lang/Throwable" (7 : Nat) "java/lang/Throwable" "cause" "Ljava/lang/Throwable;") ∈ gw := gw_5 15 rfl rfl
theorem dr_cE_Throwable_init4_9 : decode cE_Throwable_init4 9 = .ok (.aload_n 0, 1) := by decide +kernel
theorem dr_cE_Throwable_init4_10 : decode cE_Throwable_init4 10 = .ok (.getstatic 13, 3) := by decide +kernel
theorem wr_4_221 : (Jvm.Cond.fieldLink "java/lang/Throwable" (13 : Nat) "java/lang/Throwable" "UNASSIGNED_STACK" "[Ljava/lang/StackTraceElement;") ∈ gw := gw_4 221 rfl rfl
theorem dr_cE_Throwable_init4_13 : decode cE_Throwable_init4 13 = .ok (.putfield 17, 3) := by decide +kernel
theorem wr_5_16 : (Jvm.Cond.fieldLink "java/lang/Throwable" (17 : Nat) "java/lang/Throwable" "stackTrace" "[Ljava/lang/StackTraceElement;") ∈ gw := gw_5 16 rfl rfl
theorem dr_cE_Throwable_init4_16 : decode cE_Throwable_init4 16 = .ok (.aload_n 0, 1) := by decide +kernel
theorem dr_cE_Throwable_init4_17 : decode cE_Throwable_init4 17 = .ok (.getstatic 20, 3) := by decide +kernel
theorem wr_4_223 : (Jvm.Cond.fieldLink "java/lang/Throwable" (20 : Nat) "java/lang/Throwable" "SUPPRESSED_SENTINEL" "Ljava/util/List;") ∈ gw := gw_4 223 rfl rfl
theorem dr_cE_Throwable_init4_20 : decode cE_Throwable_init4 20 = .ok (.putfield 24, 3) := by decide +kernel
theorem wr_5_17 : (Jvm.Cond.fieldLink "java/lang/Throwable" (24 : Nat) "java/lang/Throwable" "suppressedExceptions" "Ljava/util/List;") ∈ gw := gw_5 17 rfl rfl
theorem dr_cE_Throwable_init4_23 : decode cE_Throwable_init4 23 = .ok (.iload 4, 2) := by decide +kernel
theorem dr_cE_Throwable_init4_25 : decode cE_Throwable_init4 25 = .ok (.ifCond .eq 11, 3) := by decide +kernel
theorem dr_cE_Throwable_init4_36 : decode cE_Throwable_init4 36 = .ok (.aload_n 0, 1) := by decide +kernel
theorem dr_cE_Throwable_init4_37 : decode cE_Throwable_init4 37 = .ok (.aconst_null, 1) := by decide +kernel
theorem dr_cE_Throwable_init4_38 : decode cE_Throwable_init4 38 = .ok (.putfield 17, 3) := by decide +kernel
theorem dr_cE_Throwable_init4_41 : decode cE_Throwable_init4 41 = .ok (.aload_n 0, 1) := by decide +kernel
theorem dr_cE_Throwable_init4_42 : decode cE_Throwable_init4 42 = .ok (.aload_n 1, 1) := by decide +kernel
theorem dr_cE_Throwable_init4_43 : decode cE_Throwable_init4 43 = .ok (.putfield 31, 3) := by decide +kernel
theorem wr_5_14 : (Jvm.Cond.fieldLink "java/lang/Throwable" (31 : Nat) "java/lang/Throwable" "detailMessage" "Ljava/lang/String;") ∈ gw := gw_5 14 rfl rfl
theorem dr_cE_Throwable_init4_46 : decode cE_Throwable_init4 46 = .ok (.aload_n 0, 1) := by decide +kernel
theorem dr_cE_Throwable_init4_47 : decode cE_Throwable_init4 47 = .ok (.aload_n 2, 1) := by decide +kernel
theorem dr_cE_Throwable_init4_48 : decode cE_Throwable_init4 48 = .ok (.putfield 7, 3) := by decide +kernel
theorem dr_cE_Throwable_init4_51 : decode cE_Throwable_init4 51 = .ok (.iload_n 3, 1) := by decide +kernel
theorem dr_cE_Throwable_init4_52 : decode cE_Throwable_init4 52 = .ok (.ifCond .ne 8, 3) := by decide +kernel
theorem dr_cE_Throwable_init4_55 : decode cE_Throwable_init4 55 = .ok (.aload_n 0, 1) := by decide +kernel
theorem dr_cE_Throwable_init4_56 : decode cE_Throwable_init4 56 = .ok (.aconst_null, 1) := by decide +kernel
theorem dr_cE_Throwable_init4_57 : decode cE_Throwable_init4 57 = .ok (.putfield 24, 3) := by decide +kernel
theorem dr_cE_Throwable_init4_60 : decode cE_Throwable_init4 60 = .ok (.return_, 1) := by decide +kernel
theorem dr_cE_Exception_init4_0 : decode cE_Exception_init4 0 = .ok (.aload_n 0, 1) := by decide +kernel
theorem dr_cE_Exception_init4_1 : decode cE_Exception_init4 1 = .ok (.aload_n 1, 1) := by decide +kernel
theorem dr_cE_Exception_init4_2 : decode cE_Exception_init4 2 = .ok (.aload_n 2, 1) := by decide +kernel
theorem dr_cE_Exception_init4_3 : decode cE_Exception_init4 3 = .ok (.iload_n 3, 1) := by decide +kernel
theorem dr_cE_Exception_init4_4 : decode cE_Exception_init4 4 = .ok (.iload 4, 2) := by decide +kernel
theorem dr_cE_Exception_init4_6 : decode cE_Exception_init4 6 = .ok (.invokespecial 16, 3) := by decide +kernel
theorem wr_9_119 : (Jvm.Cond.methodLink "java/lang/Exception" (16 : Nat) ({ cls := "java/lang/Throwable", name := "<init>", desc := "(Ljava/lang/String;Ljava/lang/Throwable;ZZ)V" } : Jvm.MethodName)) ∈ gw := gw_9 119 rfl rfl
theorem wr_1_23 : (Jvm.Cond.initialized "java/lang/Throwable") ∈ gw := gw_1 23 rfl rfl
theorem wr_9_121 : (Jvm.Cond.code ({ cls := "java/lang/Throwable", name := "<init>", desc := "(Ljava/lang/String;Ljava/lang/Throwable;ZZ)V" } : Jvm.MethodName) prog_40_method_5_code (5 : Nat) (Option.none : Option Jvm.ClassFile.FieldType)) ∈ gw := gw_9 121 rfl rfl
theorem wr_9_120 : (Jvm.Cond.instanceMethod ({ cls := "java/lang/Throwable", name := "<init>", desc := "(Ljava/lang/String;Ljava/lang/Throwable;ZZ)V" } : Jvm.MethodName)) ∈ gw := gw_9 120 rfl rfl
theorem dr_cE_Exception_init4_9 : decode cE_Exception_init4 9 = .ok (.return_, 1) := by decide +kernel
theorem dr_cE_RuntimeException_init4_0 : decode cE_RuntimeException_init4 0 = .ok (.aload_n 0, 1) := by decide +kernel
theorem dr_cE_RuntimeException_init4_1 : decode cE_RuntimeException_init4 1 = .ok (.aload_n 1, 1) := by decide +kernel
theorem dr_cE_RuntimeException_init4_2 : decode cE_RuntimeException_init4 2 = .ok (.aload_n 2, 1) := by decide +kernel
theorem dr_cE_RuntimeException_init4_3 : decode cE_RuntimeException_init4 3 = .ok (.iload_n 3, 1) := by decide +kernel
theorem dr_cE_RuntimeException_init4_4 : decode cE_RuntimeException_init4 4 = .ok (.iload 4, 2) := by decide +kernel
theorem dr_cE_RuntimeException_init4_6 : decode cE_RuntimeException_init4 6 = .ok (.invokespecial 16, 3) := by decide +kernel
theorem wr_9_116 : (Jvm.Cond.methodLink "java/lang/RuntimeException" (16 : Nat) ({ cls := "java/lang/Exception", name := "<init>", desc := "(Ljava/lang/String;Ljava/lang/Throwable;ZZ)V" } : Jvm.MethodName)) ∈ gw := gw_9 116 rfl rfl
theorem wr_1_24 : (Jvm.Cond.initialized "java/lang/Exception") ∈ gw := gw_1 24 rfl rfl
theorem wr_9_118 : (Jvm.Cond.code ({ cls := "java/lang/Exception", name := "<init>", desc := "(Ljava/lang/String;Ljava/lang/Throwable;ZZ)V" } : Jvm.MethodName) prog_25_method_5_code (5 : Nat) (Option.none : Option Jvm.ClassFile.FieldType)) ∈ gw := gw_9 118 rfl rfl
theorem wr_9_117 : (Jvm.Cond.instanceMethod ({ cls := "java/lang/Exception", name := "<init>", desc := "(Ljava/lang/String;Ljava/lang/Throwable;ZZ)V" } : Jvm.MethodName)) ∈ gw := gw_9 117 rfl rfl
theorem dr_cE_RuntimeException_init4_9 : decode cE_RuntimeException_init4 9 = .ok (.return_, 1) := by decide +kernel
theorem dr_cX16_init_0 : decode cX16_init 0 = .ok (.aload_n 0, 1) := by decide +kernel
theorem dr_cX16_init_1 : decode cX16_init 1 = .ok (.aconst_null, 1) := by decide +kernel
theorem dr_cX16_init_2 : decode cX16_init 2 = .ok (.aconst_null, 1) := by decide +kernel
theorem dr_cX16_init_3 : decode cX16_init 3 = .ok (.iconst 0, 1) := by decide +kernel
theorem dr_cX16_init_4 : decode cX16_init 4 = .ok (.iconst 0, 1) := by decide +kernel
theorem dr_cX16_init_5 : decode cX16_init 5 = .ok (.invokespecial 1, 3) := by decide +kernel
theorem wr_9_113 : (Jvm.Cond.methodLink "SpillForgeModel$Wrong" (1 : Nat) ({ cls := "java/lang/RuntimeException", name := "<init>", desc := "(Ljava/lang/String;Ljava/lang/Throwable;ZZ)V" } : Jvm.MethodName)) ∈ gw := gw_9 113 rfl rfl
theorem wr_1_25 : (Jvm.Cond.initialized "java/lang/RuntimeException") ∈ gw := gw_1 25 rfl rfl
theorem wr_9_115 : (Jvm.Cond.code ({ cls := "java/lang/RuntimeException", name := "<init>", desc := "(Ljava/lang/String;Ljava/lang/Throwable;ZZ)V" } : Jvm.MethodName) prog_33_method_5_code (5 : Nat) (Option.none : Option Jvm.ClassFile.FieldType)) ∈ gw := gw_9 115 rfl rfl
theorem wr_9_114 : (Jvm.Cond.instanceMethod ({ cls := "java/lang/RuntimeException", name := "<init>", desc := "(Ljava/lang/String;Ljava/lang/Throwable;ZZ)V" } : Jvm.MethodName)) ∈ gw := gw_9 114 rfl rfl
theorem dr_cX16_init_8 : decode cX16_init 8 = .ok (.aload_n 0, 1) := by decide +kernel
theorem dr_cX16_init_9 : decode cX16_init 9 = .ok (.iload_n 1, 1) := by decide +kernel
theorem dr_cX16_init_10 : decode cX16_init 10 = .ok (.putfield 7, 3) := by decide +kernel
theorem wr_9_122 : (Jvm.Cond.fieldLink "SpillForgeModel$Wrong" (7 : Nat) "SpillForgeModel$Wrong" "place" "I") ∈ gw := gw_9 122 rfl rfl
theorem dr_cX16_init_13 : decode cX16_init 13 = .ok (.return_, 1) := by decide +kernel
theorem dr_cX14_no_0 : decode cX14_no 0 = .ok (.new 124, 3) := by decide +kernel
theorem wr_9_101 : (Jvm.Cond.classLink "SpillForgeModel$Reader" (124 : Nat) "SpillForgeModel$Wrong") ∈ gw := gw_9 101 rfl rfl
theorem wr_9_102 : (Jvm.Cond.instantiable "SpillForgeModel$Wrong" (7 : Nat)) ∈ gw := gw_9 102 rfl rfl
theorem wr_1_37 : (Jvm.Cond.initialized "SpillForgeModel$Wrong") ∈ gw := gw_1 37 rfl rfl
theorem dr_cX14_no_3 : decode cX14_no 3 = .ok (.dup, 1) := by decide +kernel
theorem dr_cX14_no_4 : decode cX14_no 4 = .ok (.aload_n 0, 1) := by decide +kernel
theorem dr_cX14_no_5 : decode cX14_no 5 = .ok (.getfield 47, 3) := by decide +kernel
theorem dr_cX14_no_8 : decode cX14_no 8 = .ok (.invokespecial 126, 3) := by decide +kernel
theorem wr_9_110 : (Jvm.Cond.methodLink "SpillForgeModel$Reader" (126 : Nat) ({ cls := "SpillForgeModel$Wrong", name := "<init>", desc := "(I)V" } : Jvm.MethodName)) ∈ gw := gw_9 110 rfl rfl
theorem wr_9_112 : (Jvm.Cond.code ({ cls := "SpillForgeModel$Wrong", name := "<init>", desc := "(I)V" } : Jvm.MethodName) prog_19_method_1_code (2 : Nat) (Option.none : Option Jvm.ClassFile.FieldType)) ∈ gw := gw_9 112 rfl rfl
theorem wr_9_111 : (Jvm.Cond.instanceMethod ({ cls := "SpillForgeModel$Wrong", name := "<init>", desc := "(I)V" } : Jvm.MethodName)) ∈ gw := gw_9 111 rfl rfl
theorem dr_cX14_no_11 : decode cX14_no 11 = .ok (.areturn, 1) := by decide +kernel
theorem dr_cX14_is_0 : decode cX14_is 0 = .ok (.aload_n 0, 1) := by decide +kernel
theorem dr_cX14_is_1 : decode cX14_is 1 = .ok (.getfield 38, 3) := by decide +kernel
theorem dr_cX14_is_4 : decode cX14_is 4 = .ok (.iconst 5, 1) := by decide +kernel
theorem dr_cX14_is_5 : decode cX14_is 5 = .ok (.if_icmp .eq 11, 3) := by decide +kernel
theorem dr_cX14_is_16 : decode cX14_is 16 = .ok (.aload_n 0, 1) := by decide +kernel
theorem dr_cX14_is_17 : decode cX14_is 17 = .ok (.getfield 11, 3) := by decide +kernel
theorem dr_cX14_is_20 : decode cX14_is 20 = .ok (.aload_n 1, 1) := by decide +kernel
theorem dr_cX14_is_21 : decode cX14_is 21 = .ok (.invokevirtual 128, 3) := by decide +kernel
theorem wr_9_145 : (Jvm.Cond.methodLink "SpillForgeModel$Reader" (128 : Nat) ({ cls := "java/lang/String", name := "equals", desc := "(Ljava/lang/Object;)Z" } : Jvm.MethodName)) ∈ gw := gw_9 145 rfl rfl
theorem wr_9_148 : (Jvm.Cond.code ({ cls := "java/lang/String", name := "equals", desc := "(Ljava/lang/Object;)Z" } : Jvm.MethodName) prog_34_method_66_code (3 : Nat) (Option.some Jvm.ClassFile.FieldType.boolean)) ∈ gw := gw_9 148 rfl rfl
theorem wr_9_146 : (Jvm.Cond.instanceMethod ({ cls := "java/lang/String", name := "equals", desc := "(Ljava/lang/Object;)Z" } : Jvm.MethodName)) ∈ gw := gw_9 146 rfl rfl
theorem wr_9_147 : (Jvm.Cond.selects "java/lang/String" ({ cls := "java/lang/String", name := "equals", desc := "(Ljava/lang/Object;)Z" } : Jvm.MethodName) ({ cls := "java/lang/String", name := "equals", desc := "(Ljava/lang/Object;)Z" } : Jvm.MethodName)) ∈ gw := gw_9 147 rfl rfl
theorem dr_cX14_is_24 : decode cX14_is 24 = .ok (.ifCond .eq 7, 3) := by decide +kernel
theorem dr_cX14_is_31 : decode cX14_is 31 = .ok (.iconst 0, 1) := by decide +kernel
theorem dr_cX14_is_32 : decode cX14_is 32 = .ok (.ireturn, 1) := by decide +kernel
theorem dr_cX14_is_27 : decode cX14_is 27 = .ok (.iconst 1, 1) := by decide +kernel
theorem dr_cX14_is_28 : decode cX14_is 28 = .ok (.goto 4, 3) := by decide +kernel
theorem dr_cX14_is_8 : decode cX14_is 8 = .ok (.aload_n 0, 1) := by decide +kernel
theorem dr_cX14_is_9 : decode cX14_is 9 = .ok (.getfield 38, 3) := by decide +kernel
theorem dr_cX14_is_12 : decode cX14_is 12 = .ok (.iconst 1, 1) := by decide +kernel
theorem dr_cX14_is_13 : decode cX14_is 13 = .ok (.if_icmp .ne 18, 3) := by decide +kernel
theorem dr_cX14_want_0 : decode cX14_want 0 = .ok (.aload_n 0, 1) := by decide +kernel
theorem dr_cX14_want_1 : decode cX14_want 1 = .ok (.aload_n 1, 1) := by decide +kernel
theorem dr_cX14_want_2 : decode cX14_want 2 = .ok (.invokevirtual 132, 3) := by decide +kernel
theorem wr_9_141 : (Jvm.Cond.methodLink "SpillForgeModel$Reader" (132 : Nat) ({ cls := "SpillForgeModel$Reader", name := "is", desc := "(Ljava/lang/String;)Z" } : Jvm.MethodName)) ∈ gw := gw_9 141 rfl rfl
theorem wr_9_144 : (Jvm.Cond.code ({ cls := "SpillForgeModel$Reader", name := "is", desc := "(Ljava/lang/String;)Z" } : Jvm.MethodName) prog_17_method_9_code (2 : Nat) (Option.some Jvm.ClassFile.FieldType.boolean)) ∈ gw := gw_9 144 rfl rfl
theorem wr_9_143 : (Jvm.Cond.instanceMethod ({ cls := "SpillForgeModel$Reader", name := "is", desc := "(Ljava/lang/String;)Z" } : Jvm.MethodName)) ∈ gw := gw_9 143 rfl rfl
theorem wr_p_84 : Cond.selects "SpillForgeModel$Reader" ⟨"SpillForgeModel$Reader", "is", "(Ljava/lang/String;)Z"⟩ ⟨"SpillForgeModel$Reader", "is", "(Ljava/lang/String;)Z"⟩ ∈ gw := gw_p _ 84 rfl rfl rfl
theorem dr_cX14_want_5 : decode cX14_want 5 = .ok (.ifCond .ne 8, 3) := by decide +kernel
theorem dr_cX14_want_13 : decode cX14_want 13 = .ok (.aload_n 0, 1) := by decide +kernel
theorem dr_cX14_want_14 : decode cX14_want 14 = .ok (.invokevirtual 35, 3) := by decide +kernel
theorem wr_7_215 : (Jvm.Cond.methodLink "SpillForgeModel$Reader" (35 : Nat) ({ cls := "SpillForgeModel$Reader", name := "next", desc := "()V" } : Jvm.MethodName)) ∈ gw := gw_7 215 rfl rfl
theorem wr_7_218 : (Jvm.Cond.code ({ cls := "SpillForgeModel$Reader", name := "next", desc := "()V" } : Jvm.MethodName) prog_17_method_4_code (3 : Nat) (Option.none : Option Jvm.ClassFile.FieldType)) ∈ gw := gw_7 218 rfl rfl
theorem wr_7_217 : (Jvm.Cond.instanceMethod ({ cls := "SpillForgeModel$Reader", name := "next", desc := "()V" } : Jvm.MethodName)) ∈ gw := gw_7 217 rfl rfl
theorem wr_p_75 : Cond.selects "SpillForgeModel$Reader" ⟨"SpillForgeModel$Reader", "next", "()V"⟩ ⟨"SpillForgeModel$Reader", "next", "()V"⟩ ∈ gw := gw_p _ 75 rfl rfl rfl
theorem dr_cX14_want_17 : decode cX14_want 17 = .ok (.return_, 1) := by decide +kernel
theorem dr_cX14_want_8 : decode cX14_want 8 = .ok (.aload_n 0, 1) := by decide +kernel
theorem dr_cX14_want_9 : decode cX14_want 9 = .ok (.invokevirtual 136, 3) := by decide +kernel
theorem wr_9_97 : (Jvm.Cond.methodLink "SpillForgeModel$Reader" (136 : Nat) ({ cls := "SpillForgeModel$Reader", name := "no", desc := "()LSpillForgeModel$Wrong;" } : Jvm.MethodName)) ∈ gw := gw_9 97 rfl rfl
theorem wr_9_100 : (Jvm.Cond.code ({ cls := "SpillForgeModel$Reader", name := "no", desc := "()LSpillForgeModel$Wrong;" } : Jvm.MethodName) prog_17_method_8_code (1 : Nat) (Option.some (Jvm.ClassFile.FieldType.object "SpillForgeModel$Wrong"))) ∈ gw := gw_9 100 rfl rfl
theorem wr_9_99 : (Jvm.Cond.instanceMethod ({ cls := "SpillForgeModel$Reader", name := "no", desc := "()LSpillForgeModel$Wrong;" } : Jvm.MethodName)) ∈ gw := gw_9 99 rfl rfl
theorem wr_p_81 : Cond.selects "SpillForgeModel$Reader" ⟨"SpillForgeModel$Reader", "no", "()LSpillForgeModel$Wrong;"⟩ ⟨"SpillForgeModel$Reader", "no", "()LSpillForgeModel$Wrong;"⟩ ∈ gw := gw_p _ 81 rfl rfl rfl
theorem dr_cX14_want_12 : decode cX14_want 12 = .ok (.athrow, 1) := by decide +kernel
theorem dr_cX14_want__0 : decode cX14_want_ 0 = .ok (.aload_n 0, 1) := by decide +kernel
theorem dr_cX14_want__1 : decode cX14_want_ 1 = .ok (.getfield 38, 3) := by decide +kernel
theorem dr_cX14_want__4 : decode cX14_want_ 4 = .ok (.iload_n 1, 1) := by decide +kernel
theorem dr_cX14_want__5 : decode cX14_want_ 5 = .ok (.if_icmp .eq 8, 3) := by decide +kernel
theorem dr_cX14_want__13 : decode cX14_want_ 13 = .ok (.aload_n 0, 1) := by decide +kernel
theorem dr_cX14_want__14 : decode cX14_want_ 14 = .ok (.getfield 80, 3) := by decide +kernel
theorem dr_cX14_want__17 : decode cX14_want_ 17 = .ok (.istore_n 2, 1) := by decide +kernel
theorem dr_cX14_want__18 : decode cX14_want_ 18 = .ok (.aload_n 0, 1) := by decide +kernel
theorem dr_cX14_want__19 : decode cX14_want_ 19 = .ok (.invokevirtual 35, 3) := by decide +kernel
theorem dr_cX14_want__22 : decode cX14_want_ 22 = .ok (.iload_n 2, 1) := by decide +kernel
theorem dr_cX14_want__23 : decode cX14_want_ 23 = .ok (.ireturn, 1) := by decide +kernel
theorem dr_cX14_want__8 : decode cX14_want_ 8 = .ok (.aload_n 0, 1) := by decide +kernel
theorem dr_cX14_want__9 : decode cX14_want_ 9 = .ok (.invokevirtual 136, 3) := by decide +kernel
theorem dr_cX14_want__12 : decode cX14_want_ 12 = .ok (.athrow, 1) := by decide +kernel
abbrev ky_674148_Throwable_init : gKey := (cE_Throwable_init4, 5, "java/lang/Throwable", none, [], "<init>", fun _ _ => True)
def pp_674148_Throwable_init (D : va_G) (I : FieldType → ClassId) (P674143 : List Nat) (F674144 : Nat → va_E) (q674145 : Nat) (p674146 : Int32) (p674147 : Int32) : Option Value → va_W → Nat → Nat → Prop := fun r w dc ds => ∃ (F674274 : Nat → va_E), r = none ∧ w = va_pl P674143 F674274 ∧ rFr [q674145] P674143 F674144 F674274 ∧ F674274 q674145 = .inr (21, [.null, .null, .null, .null, .null, .int p674146, .int p674147]) ∧ dc ≤ 0 ∧ ds ≤ 0
set_option maxRecDepth 100000 in
set_option maxHeartbeats 4000000 in
theorem cp_674148_Throwable_init (l : Launch) (hl0 : l.stackTraces = false) (D : va_G) (I : FieldType → ClassId) (P674143 : List Nat) (F674144 : Nat → va_E) (q674145 : Nat) (p674146 : Int32) (p674147 : Int32) (hmq674145 : q674145 ∈ P674143) (heq674145 : F674144 q674145 = .inr (21, [.null, .null, .null, .null, .null, .int p674146, .int p674147])) (bp674147 : gB p674147 0 8192) : CtA (gV D I) l yE_Throwable_init4 cE_Throwable_init4 5 none 1 12 0 0 [.ref q674145, .null, .null, .int 0, .int 0] (va_pl P674143 F674144) (pp_674148_Throwable_init D I P674143 F674144 q674145 p674146 p674147) gNA := by
  refine CtA_ofF hl0 (by decide +kernel) (Nat.le_of_ble_eq_true rfl) ?_
  have bp674146 := gB_any p674146
  refine G_aload_n 0 dr_cE_Throwable_init4_0 rfl ?_
  refine G_obj dr_cE_Throwable_init4_1 wr_4_220 wr_1_51 wr_1_52 (Nat.le_of_ble_eq_true rfl) (Nat.le_of_ble_eq_true rfl) ?_
  refine G_aload_n 0 dr_cE_Throwable_init4_4 rfl ?_
  refine G_aload_n 0 dr_cE_Throwable_init4_5 rfl ?_
  refine Gp_put 0 hmq674145 heq674145 dr_cE_Throwable_init4_6 (gk_X16 D I) (Nat.le_of_ble_eq_true rfl) wr_5_15 rfl rfl rfl (Nat.le_of_ble_eq_true rfl) (fun F674149 e674150 n674151 => ?_)
  have he674152 : F674149 q674145 = .inr (21, [.ref q674145, .null, .null, .null, .null, .int p674146, .int p674147]) := e674150
  have hfr674153 : rFr [q674145] P674143 F674144 F674149 := rFr_put (rFr_rf (W := []) (P := P674143) (F := F674144)) n674151
  refine G_aload_n 0 dr_cE_Throwable_init4_9 rfl ?_
  refine G_gets dr_cE_Throwable_init4_10 wr_4_221 gz_us (fun x674156 hx674155 => ?_)
  rcases hx674155 with rfl | ⟨t674154, rfl⟩
  · refine Gp_put 1 hmq674145 he674152 dr_cE_Throwable_init4_13 (gk_X16 D I) (Nat.le_of_ble_eq_true rfl) wr_5_16 rfl rfl rfl (Nat.le_of_ble_eq_true rfl) (fun F674157 e674158 n674159 => ?_)
    have he674160 : F674157 q674145 = .inr (21, [.ref q674145, .null, .null, .null, .null, .int p674146, .int p674147]) := e674158
    have hfr674161 : rFr [q674145] P674143 F674144 F674157 := rFr_put' List.mem_cons_self hfr674153 n674159
    refine G_aload_n 0 dr_cE_Throwable_init4_16 rfl ?_
    refine G_gets dr_cE_Throwable_init4_17 wr_4_223 gz_ss (fun x674164 hx674163 => ?_)
    rcases hx674163 with rfl | ⟨t674162, rfl⟩
    · refine Gp_put 2 hmq674145 he674160 dr_cE_Throwable_init4_20 (gk_X16 D I) (Nat.le_of_ble_eq_true rfl) wr_5_17 rfl rfl rfl (Nat.le_of_ble_eq_true rfl) (fun F674165 e674166 n674167 => ?_)
      have he674168 : F674165 q674145 = .inr (21, [.ref q674145, .null, .null, .null, .null, .int p674146, .int p674147]) := e674166
      have hfr674169 : rFr [q674145] P674143 F674144 F674165 := rFr_put' List.mem_cons_self hfr674161 n674167
      refine G_iload 4 dr_cE_Throwable_init4_23 rfl ?_
      refine G_if_eq 36 dr_cE_Throwable_init4_25 (by decide +kernel) (fun _ => ?_) (fun hc => absurd hc (by decide))
      refine G_aload_n 0 dr_cE_Throwable_init4_36 rfl ?_
      refine G_null dr_cE_Throwable_init4_37 ?_
      refine Gp_put 1 hmq674145 he674168 dr_cE_Throwable_init4_38 (gk_X16 D I) (Nat.le_of_ble_eq_true rfl) wr_5_16 rfl rfl rfl (Nat.le_of_ble_eq_true rfl) (fun F674170 e674171 n674172 => ?_)
      have he674173 : F674170 q674145 = .inr (21, [.ref q674145, .null, .null, .null, .null, .int p674146, .int p674147]) := e674171
      have hfr674174 : rFr [q674145] P674143 F674144 F674170 := rFr_put' List.mem_cons_self hfr674169 n674172
      refine G_aload_n 0 dr_cE_Throwable_init4_41 rfl ?_
      refine G_aload_nN 1 dr_cE_Throwable_init4_42 rfl ?_
      refine Gp_put 3 hmq674145 he674173 dr_cE_Throwable_init4_43 (gk_X16 D I) (Nat.le_of_ble_eq_true rfl) wr_5_14 rfl rfl rfl (Nat.le_of_ble_eq_true rfl) (fun F674175 e674176 n674177 => ?_)
      have he674178 : F674175 q674145 = .inr (21, [.ref q674145, .null, .null, .null, .null, .int p674146, .int p674147]) := e674176
      have hfr674179 : rFr [q674145] P674143 F674144 F674175 := rFr_put' List.mem_cons_self hfr674174 n674177
      refine G_aload_n 0 dr_cE_Throwable_init4_46 rfl ?_
      refine G_aload_nN 2 dr_cE_Throwable_init4_47 rfl ?_
      refine Gp_put 0 hmq674145 he674178 dr_cE_Throwable_init4_48 (gk_X16 D I) (Nat.le_of_ble_eq_true rfl) wr_5_15 rfl rfl rfl (Nat.le_of_ble_eq_true rfl) (fun F674180 e674181 n674182 => ?_)
      have he674183 : F674180 q674145 = .inr (21, [.null, .null, .null, .null, .null, .int p674146, .int p674147]) := e674181
      have hfr674184 : rFr [q674145] P674143 F674144 F674180 := rFr_put' List.mem_cons_self hfr674179 n674182
      refine G_iload_n 3 dr_cE_Throwable_init4_51 rfl ?_
      refine G_if_ne 60 dr_cE_Throwable_init4_52 (by decide +kernel) (fun hc => absurd hc (by decide)) (fun _ => ?_)
      refine G_aload_n 0 dr_cE_Throwable_init4_55 rfl ?_
      refine G_null dr_cE_Throwable_init4_56 ?_
      refine Gp_put 2 hmq674145 he674183 dr_cE_Throwable_init4_57 (gk_X16 D I) (Nat.le_of_ble_eq_true rfl) wr_5_17 rfl rfl rfl (Nat.le_of_ble_eq_true rfl) (fun F674185 e674186 n674187 => ?_)
      have he674188 : F674185 q674145 = .inr (21, [.null, .null, .null, .null, .null, .int p674146, .int p674147]) := e674186
      have hfr674189 : rFr [q674145] P674143 F674144 F674185 := rFr_put' List.mem_cons_self hfr674184 n674187
      exact G_vretA dr_cE_Throwable_init4_60 rfl (Nat.le_of_ble_eq_true rfl) (Nat.le_of_ble_eq_true rfl) ⟨F674185, rfl, rfl, hfr674189, he674188, (Nat.le_of_ble_eq_true rfl), (Nat.le_of_ble_eq_true rfl)⟩
    · refine Gp_put 2 hmq674145 he674160 dr_cE_Throwable_init4_20 (gk_X16 D I) (Nat.le_of_ble_eq_true rfl) wr_5_17 rfl rfl rfl (Nat.le_of_ble_eq_true rfl) (fun F674190 e674191 n674192 => ?_)
      have he674193 : F674190 q674145 = .inr (21, [.ref q674145, .null, .ref t674162, .null, .null, .int p674146, .int p674147]) := e674191
      have hfr674194 : rFr [q674145] P674143 F674144 F674190 := rFr_put' List.mem_cons_self hfr674161 n674192
      refine G_iload 4 dr_cE_Throwable_init4_23 rfl ?_
      refine G_if_eq 36 dr_cE_Throwable_init4_25 (by decide +kernel) (fun _ => ?_) (fun hc => absurd hc (by decide))
      refine G_aload_n 0 dr_cE_Throwable_init4_36 rfl ?_
      refine G_null dr_cE_Throwable_init4_37 ?_
      refine Gp_put 1 hmq674145 he674193 dr_cE_Throwable_init4_38 (gk_X16 D I) (Nat.le_of_ble_eq_true rfl) wr_5_16 rfl rfl rfl (Nat.le_of_ble_eq_true rfl) (fun F674195 e674196 n674197 => ?_)
      have he674198 : F674195 q674145 = .inr (21, [.ref q674145, .null, .ref t674162, .null, .null, .int p674146, .int p674147]) := e674196
      have hfr674199 : rFr [q674145] P674143 F674144 F674195 := rFr_put' List.mem_cons_self hfr674194 n674197
      refine G_aload_n 0 dr_cE_Throwable_init4_41 rfl ?_
      refine G_aload_nN 1 dr_cE_Throwable_init4_42 rfl ?_
      refine Gp_put 3 hmq674145 he674198 dr_cE_Throwable_init4_43 (gk_X16 D I) (Nat.le_of_ble_eq_true rfl) wr_5_14 rfl rfl rfl (Nat.le_of_ble_eq_true rfl) (fun F674200 e674201 n674202 => ?_)
      have he674203 : F674200 q674145 = .inr (21, [.ref q674145, .null, .ref t674162, .null, .null, .int p674146, .int p674147]) := e674201
      have hfr674204 : rFr [q674145] P674143 F674144 F674200 := rFr_put' List.mem_cons_self hfr674199 n674202
      refine G_aload_n 0 dr_cE_Throwable_init4_46 rfl ?_
      refine G_aload_nN 2 dr_cE_Throwable_init4_47 rfl ?_
      refine Gp_put 0 hmq674145 he674203 dr_cE_Throwable_init4_48 (gk_X16 D I) (Nat.le_of_ble_eq_true rfl) wr_5_15 rfl rfl rfl (Nat.le_of_ble_eq_true rfl) (fun F674205 e674206 n674207 => ?_)
      have he674208 : F674205 q674145 = .inr (21, [.null, .null, .ref t674162, .null, .null, .int p674146, .int p674147]) := e674206
      have hfr674209 : rFr [q674145] P674143 F674144 F674205 := rFr_put' List.mem_cons_self hfr674204 n674207
      refine G_iload_n 3 dr_cE_Throwable_init4_51 rfl ?_
      refine G_if_ne 60 dr_cE_Throwable_init4_52 (by decide +kernel) (fun hc => absurd hc (by decide)) (fun _ => ?_)
      refine G_aload_n 0 dr_cE_Throwable_init4_55 rfl ?_
      refine G_null dr_cE_Throwable_init4_56 ?_
      refine Gp_put 2 hmq674145 he674208 dr_cE_Throwable_init4_57 (gk_X16 D I) (Nat.le_of_ble_eq_true rfl) wr_5_17 rfl rfl rfl (Nat.le_of_ble_eq_true rfl) (fun F674210 e674211 n674212 => ?_)
      have he674213 : F674210 q674145 = .inr (21, [.null, .null, .null, .null, .null, .int p674146, .int p674147]) := e674211
      have hfr674214 : rFr [q674145] P674143 F674144 F674210 := rFr_put' List.mem_cons_self hfr674209 n674212
      exact G_vretA dr_cE_Throwable_init4_60 rfl (Nat.le_of_ble_eq_true rfl) (Nat.le_of_ble_eq_true rfl) ⟨F674210, rfl, rfl, hfr674214, he674213, (Nat.le_of_ble_eq_true rfl), (Nat.le_of_ble_eq_true rfl)⟩
  · refine Gp_put 1 hmq674145 he674152 dr_cE_Throwable_init4_13 (gk_X16 D I) (Nat.le_of_ble_eq_true rfl) wr_5_16 rfl rfl rfl (Nat.le_of_ble_eq_true rfl) (fun F674215 e674216 n674217 => ?_)
    have he674218 : F674215 q674145 = .inr (21, [.ref q674145, .ref t674154, .null, .null, .null, .int p674146, .int p674147]) := e674216
    have hfr674219 : rFr [q674145] P674143 F674144 F674215 := rFr_put' List.mem_cons_self hfr674153 n674217
    refine G_aload_n 0 dr_cE_Throwable_init4_16 rfl ?_
    refine G_gets dr_cE_Throwable_init4_17 wr_4_223 gz_ss (fun x674222 hx674221 => ?_)
    rcases hx674221 with rfl | ⟨t674220, rfl⟩
    · refine Gp_put 2 hmq674145 he674218 dr_cE_Throwable_init4_20 (gk_X16 D I) (Nat.le_of_ble_eq_true rfl) wr_5_17 rfl rfl rfl (Nat.le_of_ble_eq_true rfl) (fun F674223 e674224 n674225 => ?_)
      have he674226 : F674223 q674145 = .inr (21, [.ref q674145, .ref t674154, .null, .null, .null, .int p674146, .int p674147]) := e674224
      have hfr674227 : rFr [q674145] P674143 F674144 F674223 := rFr_put' List.mem_cons_self hfr674219 n674225
      refine G_iload 4 dr_cE_Throwable_init4_23 rfl ?_
      refine G_if_eq 36 dr_cE_Throwable_init4_25 (by decide +kernel) (fun _ => ?_) (fun hc => absurd hc (by decide))
      refine G_aload_n 0 dr_cE_Throwable_init4_36 rfl ?_
      refine G_null dr_cE_Throwable_init4_37 ?_
      refine Gp_put 1 hmq674145 he674226 dr_cE_Throwable_init4_38 (gk_X16 D I) (Nat.le_of_ble_eq_true rfl) wr_5_16 rfl rfl rfl (Nat.le_of_ble_eq_true rfl) (fun F674228 e674229 n674230 => ?_)
      have he674231 : F674228 q674145 = .inr (21, [.ref q674145, .null, .null, .null, .null, .int p674146, .int p674147]) := e674229
      have hfr674232 : rFr [q674145] P674143 F674144 F674228 := rFr_put' List.mem_cons_self hfr674227 n674230
      refine G_aload_n 0 dr_cE_Throwable_init4_41 rfl ?_
      refine G_aload_nN 1 dr_cE_Throwable_init4_42 rfl ?_
      refine Gp_put 3 hmq674145 he674231 dr_cE_Throwable_init4_43 (gk_X16 D I) (Nat.le_of_ble_eq_true rfl) wr_5_14 rfl rfl rfl (Nat.le_of_ble_eq_true rfl) (fun F674233 e674234 n674235 => ?_)
      have he674236 : F674233 q674145 = .inr (21, [.ref q674145, .null, .null, .null, .null, .int p674146, .int p674147]) := e674234
      have hfr674237 : rFr [q674145] P674143 F674144 F674233 := rFr_put' List.mem_cons_self hfr674232 n674235
      refine G_aload_n 0 dr_cE_Throwable_init4_46 rfl ?_
      refine G_aload_nN 2 dr_cE_Throwable_init4_47 rfl ?_
      refine Gp_put 0 hmq674145 he674236 dr_cE_Throwable_init4_48 (gk_X16 D I) (Nat.le_of_ble_eq_true rfl) wr_5_15 rfl rfl rfl (Nat.le_of_ble_eq_true rfl) (fun F674238 e674239 n674240 => ?_)
      have he674241 : F674238 q674145 = .inr (21, [.null, .null, .null, .null, .null, .int p674146, .int p674147]) := e674239
      have hfr674242 : rFr [q674145] P674143 F674144 F674238 := rFr_put' List.mem_cons_self hfr674237 n674240
      refine G_iload_n 3 dr_cE_Throwable_init4_51 rfl ?_
      refine G_if_ne 60 dr_cE_Throwable_init4_52 (by decide +kernel) (fun hc => absurd hc (by decide)) (fun _ => ?_)
      refine G_aload_n 0 dr_cE_Throwable_init4_55 rfl ?_
      refine G_null dr_cE_Throwable_init4_56 ?_
      refine Gp_put 2 hmq674145 he674241 dr_cE_Throwable_init4_57 (gk_X16 D I) (Nat.le_of_ble_eq_true rfl) wr_5_17 rfl rfl rfl (Nat.le_of_ble_eq_true rfl) (fun F674243 e674244 n674245 => ?_)
      have he674246 : F674243 q674145 = .inr (21, [.null, .null, .null, .null, .null, .int p674146, .int p674147]) := e674244
      have hfr674247 : rFr [q674145] P674143 F674144 F674243 := rFr_put' List.mem_cons_self hfr674242 n674245
      exact G_vretA dr_cE_Throwable_init4_60 rfl (Nat.le_of_ble_eq_true rfl) (Nat.le_of_ble_eq_true rfl) ⟨F674243, rfl, rfl, hfr674247, he674246, (Nat.le_of_ble_eq_true rfl), (Nat.le_of_ble_eq_true rfl)⟩
    · refine Gp_put 2 hmq674145 he674218 dr_cE_Throwable_init4_20 (gk_X16 D I) (Nat.le_of_ble_eq_true rfl) wr_5_17 rfl rfl rfl (Nat.le_of_ble_eq_true rfl) (fun F674248 e674249 n674250 => ?_)
      have he674251 : F674248 q674145 = .inr (21, [.ref q674145, .ref t674154, .ref t674220, .null, .null, .int p674146, .int p674147]) := e674249
      have hfr674252 : rFr [q674145] P674143 F674144 F674248 := rFr_put' List.mem_cons_self hfr674219 n674250
      refine G_iload 4 dr_cE_Throwable_init4_23 rfl ?_
      refine G_if_eq 36 dr_cE_Throwable_init4_25 (by decide +kernel) (fun _ => ?_) (fun hc => absurd hc (by decide))
      refine G_aload_n 0 dr_cE_Throwable_init4_36 rfl ?_
      refine G_null dr_cE_Throwable_init4_37 ?_
      refine Gp_put 1 hmq674145 he674251 dr_cE_Throwable_init4_38 (gk_X16 D I) (Nat.le_of_ble_eq_true rfl) wr_5_16 rfl rfl rfl (Nat.le_of_ble_eq_true rfl) (fun F674253 e674254 n674255 => ?_)
      have he674256 : F674253 q674145 = .inr (21, [.ref q674145, .null, .ref t674220, .null, .null, .int p674146, .int p674147]) := e674254
      have hfr674257 : rFr [q674145] P674143 F674144 F674253 := rFr_put' List.mem_cons_self hfr674252 n674255
      refine G_aload_n 0 dr_cE_Throwable_init4_41 rfl ?_
      refine G_aload_nN 1 dr_cE_Throwable_init4_42 rfl ?_
      refine Gp_put 3 hmq674145 he674256 dr_cE_Throwable_init4_43 (gk_X16 D I) (Nat.le_of_ble_eq_true rfl) wr_5_14 rfl rfl rfl (Nat.le_of_ble_eq_true rfl) (fun F674258 e674259 n674260 => ?_)
      have he674261 : F674258 q674145 = .inr (21, [.ref q674145, .null, .ref t674220, .null, .null, .int p674146, .int p674147]) := e674259
      have hfr674262 : rFr [q674145] P674143 F674144 F674258 := rFr_put' List.mem_cons_self hfr674257 n674260
      refine G_aload_n 0 dr_cE_Throwable_init4_46 rfl ?_
      refine G_aload_nN 2 dr_cE_Throwable_init4_47 rfl ?_
      refine Gp_put 0 hmq674145 he674261 dr_cE_Throwable_init4_48 (gk_X16 D I) (Nat.le_of_ble_eq_true rfl) wr_5_15 rfl rfl rfl (Nat.le_of_ble_eq_true rfl) (fun F674263 e674264 n674265 => ?_)
      have he674266 : F674263 q674145 = .inr (21, [.null, .null, .ref t674220, .null, .null, .int p674146, .int p674147]) := e674264
      have hfr674267 : rFr [q674145] P674143 F674144 F674263 := rFr_put' List.mem_cons_self hfr674262 n674265
      refine G_iload_n 3 dr_cE_Throwable_init4_51 rfl ?_
      refine G_if_ne 60 dr_cE_Throwable_init4_52 (by decide +kernel) (fun hc => absurd hc (by decide)) (fun _ => ?_)
      refine G_aload_n 0 dr_cE_Throwable_init4_55 rfl ?_
      refine G_null dr_cE_Throwable_init4_56 ?_
      refine Gp_put 2 hmq674145 he674266 dr_cE_Throwable_init4_57 (gk_X16 D I) (Nat.le_of_ble_eq_true rfl) wr_5_17 rfl rfl rfl (Nat.le_of_ble_eq_true rfl) (fun F674268 e674269 n674270 => ?_)
      have he674271 : F674268 q674145 = .inr (21, [.null, .null, .null, .null, .null, .int p674146, .int p674147]) := e674269
      have hfr674272 : rFr [q674145] P674143 F674144 F674268 := rFr_put' List.mem_cons_self hfr674267 n674270
      exact G_vretA dr_cE_Throwable_init4_60 rfl (Nat.le_of_ble_eq_true rfl) (Nat.le_of_ble_eq_true rfl) ⟨F674268, rfl, rfl, hfr674272, he674271, (Nat.le_of_ble_eq_true rfl), (Nat.le_of_ble_eq_true rfl)⟩
abbrev ky_674142_Exception_init : gKey := (cE_Exception_init4, 5, "java/lang/Exception", none, [], "<init>", fun _ _ => True)
def pp_674142_Exception_init (D : va_G) (I : FieldType → ClassId) (P674137 : List Nat) (F674138 : Nat → va_E) (q674139 : Nat) (p674140 : Int32) (p674141 : Int32) : Option Value → va_W → Nat → Nat → Prop := fun r w dc ds => ∃ (F674286 : Nat → va_E), r = none ∧ w = va_pl P674137 F674286 ∧ rFr [q674139] P674137 F674138 F674286 ∧ F674286 q674139 = .inr (21, [.null, .null, .null, .null, .null, .int p674140, .int p674141]) ∧ dc ≤ 0 ∧ ds ≤ 0
set_option maxRecDepth 100000 in
set_option maxHeartbeats 4000000 in
theorem cp_674142_Exception_init (l : Launch) (hl0 : l.stackTraces = false) (D : va_G) (I : FieldType → ClassId) (P674137 : List Nat) (F674138 : Nat → va_E) (q674139 : Nat) (p674140 : Int32) (p674141 : Int32) (hmq674139 : q674139 ∈ P674137) (heq674139 : F674138 q674139 = .inr (21, [.null, .null, .null, .null, .null, .int p674140, .int p674141])) (bp674141 : gB p674141 0 8192) : CtA (gV D I) l yE_Exception_init4 cE_Exception_init4 5 none 2 36 0 0 [.ref q674139, .null, .null, .int 0, .int 0] (va_pl P674137 F674138) (pp_674142_Exception_init D I P674137 F674138 q674139 p674140 p674141) gNA := by
  refine CtA_ofF hl0 (by decide +kernel) (Nat.le_of_ble_eq_true rfl) ?_
  have bp674140 := gB_any p674140
  refine G_aload_n 0 dr_cE_Exception_init4_0 rfl ?_
  refine G_aload_nN 1 dr_cE_Exception_init4_1 rfl ?_
  refine G_aload_nN 2 dr_cE_Exception_init4_2 rfl ?_
  refine G_iload_n 3 dr_cE_Exception_init4_3 rfl ?_
  refine G_iload 4 dr_cE_Exception_init4_4 rfl ?_
  refine Gw_callI (As := [.null, .null, .int 0, .int 0]) (gV_ok D I) (cp_674148_Throwable_init l hl0 D I P674137 F674138 q674139 p674140 p674141 hmq674139 heq674139 bp674141) dr_cE_Exception_init4_6 ⟨wr_9_119, wr_1_23, wr_9_121, by decide, rfl, (Nat.le_of_ble_eq_true rfl), (Nat.le_of_ble_eq_true rfl)⟩ wr_9_120 rfl (show 0 + 0 ≤ 0 by first | omega | decide) (show 0 + 0 ≤ 0 by first | omega | decide) (Nat.le_of_ble_eq_true rfl) (fun r674278 w674279 dc674275 ds674276 hp674277 => ?_)
  obtain ⟨F674280, rfl, rfl, hfr674282, he674283, hdc, hds⟩ := hp674277
  have hfr674284 : rFr [q674139] P674137 F674138 F674280 := rFr_call (rSub_rf (P := P674137)) (rFr_rf (W := []) (P := P674137) (F := F674138)) hfr674282 (fun b hb hn => ⟨nm_n, (nm_c (fun e => hn (e ▸ List.mem_cons_self)) nm_n)⟩)
  change G _ _ _ _ _ _ _ _ _ _ _
  refine G_widen (cs' := 0) (sl' := 0) (by omega) (by omega) ?_
  exact G_vretA dr_cE_Exception_init4_9 rfl (Nat.le_of_ble_eq_true rfl) (Nat.le_of_ble_eq_true rfl) ⟨F674280, rfl, rfl, hfr674284, he674283, (Nat.le_of_ble_eq_true rfl), (Nat.le_of_ble_eq_true rfl)⟩
abbrev ky_674136_RuntimeException_init : gKey := (cE_RuntimeException_init4, 5, "java/lang/RuntimeException", none, [], "<init>", fun _ _ => True)
def pp_674136_RuntimeException_init (D : va_G) (I : FieldType → ClassId) (P674131 : List Nat) (F674132 : Nat → va_E) (q674133 : Nat) (p674134 : Int32) (p674135 : Int32) : Option Value → va_W → Nat → Nat → Prop := fun r w dc ds => ∃ (F674298 : Nat → va_E), r = none ∧ w = va_pl P674131 F674298 ∧ rFr [q674133] P674131 F674132 F674298 ∧ F674298 q674133 = .inr (21, [.null, .null, .null, .null, .null, .int p674134, .int p674135]) ∧ dc ≤ 0 ∧ ds ≤ 0
set_option maxRecDepth 100000 in
set_option maxHeartbeats 4000000 in
theorem cp_674136_RuntimeException_init (l : Launch) (hl0 : l.stackTraces = false) (D : va_G) (I : FieldType → ClassId) (P674131 : List Nat) (F674132 : Nat → va_E) (q674133 : Nat) (p674134 : Int32) (p674135 : Int32) (hmq674133 : q674133 ∈ P674131) (heq674133 : F674132 q674133 = .inr (21, [.null, .null, .null, .null, .null, .int p674134, .int p674135])) (bp674135 : gB p674135 0 8192) : CtA (gV D I) l yE_RuntimeException_init4 cE_RuntimeException_init4 5 none 3 60 0 0 [.ref q674133, .null, .null, .int 0, .int 0] (va_pl P674131 F674132) (pp_674136_RuntimeException_init D I P674131 F674132 q674133 p674134 p674135) gNA := by
  refine CtA_ofF hl0 (by decide +kernel) (Nat.le_of_ble_eq_true rfl) ?_
  have bp674134 := gB_any p674134
  refine G_aload_n 0 dr_cE_RuntimeException_init4_0 rfl ?_
  refine G_aload_nN 1 dr_cE_RuntimeException_init4_1 rfl ?_
  refine G_aload_nN 2 dr_cE_RuntimeException_init4_2 rfl ?_
  refine G_iload_n 3 dr_cE_RuntimeException_init4_3 rfl ?_
  refine G_iload 4 dr_cE_RuntimeException_init4_4 rfl ?_
  refine Gw_callI (As := [.null, .null, .int 0, .int 0]) (gV_ok D I) (cp_674142_Exception_init l hl0 D I P674131 F674132 q674133 p674134 p674135 hmq674133 heq674133 bp674135) dr_cE_RuntimeException_init4_6 ⟨wr_9_116, wr_1_24, wr_9_118, by decide, rfl, (Nat.le_of_ble_eq_true rfl), (Nat.le_of_ble_eq_true rfl)⟩ wr_9_117 rfl (show 0 + 0 ≤ 0 by first | omega | decide) (show 0 + 0 ≤ 0 by first | omega | decide) (Nat.le_of_ble_eq_true rfl) (fun r674290 w674291 dc674287 ds674288 hp674289 => ?_)
  obtain ⟨F674292, rfl, rfl, hfr674294, he674295, hdc, hds⟩ := hp674289
  have hfr674296 : rFr [q674133] P674131 F674132 F674292 := rFr_call (rSub_rf (P := P674131)) (rFr_rf (W := []) (P := P674131) (F := F674132)) hfr674294 (fun b hb hn => ⟨nm_n, (nm_c (fun e => hn (e ▸ List.mem_cons_self)) nm_n)⟩)
  change G _ _ _ _ _ _ _ _ _ _ _
  refine G_widen (cs' := 0) (sl' := 0) (by omega) (by omega) ?_
  exact G_vretA dr_cE_RuntimeException_init4_9 rfl (Nat.le_of_ble_eq_true rfl) (Nat.le_of_ble_eq_true rfl) ⟨F674292, rfl, rfl, hfr674296, he674295, (Nat.le_of_ble_eq_true rfl), (Nat.le_of_ble_eq_true rfl)⟩
abbrev ky_674130_Wrong_init : gKey := (cX16_init, 2, "SpillForgeModel$Wrong", none, [], "<init>", fun _ _ => True)
def pp_674130_Wrong_init (D : va_G) (I : FieldType → ClassId) (P674124 : List Nat) (F674125 : Nat → va_E) (q674126 : Nat) (p674127 : Int32) (p674128 : Int32) (p674129 : Int32) : Option Value → va_W → Nat → Nat → Prop := fun r w dc ds => ∃ (F674315 : Nat → va_E), r = none ∧ w = va_pl P674124 F674315 ∧ rFr [q674126] P674124 F674125 F674315 ∧ F674315 q674126 = .inr (21, [.null, .null, .null, .null, .null, .int p674128, .int p674127]) ∧ dc ≤ 0 ∧ ds ≤ 0
set_option maxRecDepth 100000 in
set_option maxHeartbeats 4000000 in
theorem cp_674130_Wrong_init (l : Launch) (hl0 : l.stackTraces = false) (D : va_G) (I : FieldType → ClassId) (P674124 : List Nat) (F674125 : Nat → va_E) (q674126 : Nat) (p674127 : Int32) (p674128 : Int32) (p674129 : Int32) (hmq674126 : q674126 ∈ P674124) (heq674126 : F674125 q674126 = .inr (21, [.null, .null, .null, .null, .null, .int p674128, .int p674129])) (bp674129 : gB p674129 0 8192) : CtA (gV D I) l yX16_init cX16_init 2 none 4 84 0 0 [.ref q674126, .int p674127] (va_pl P674124 F674125) (pp_674130_Wrong_init D I P674124 F674125 q674126 p674127 p674128 p674129) gNA := by
  refine CtA_of hl0 (by decide) (Nat.le_of_ble_eq_true rfl) ?_
  have bp674127 := gB_any p674127
  have bp674128 := gB_any p674128
  refine G_aload_n 0 dr_cX16_init_0 rfl ?_
  refine G_null dr_cX16_init_1 ?_
  refine G_null dr_cX16_init_2 ?_
  refine G_iconst 0 dr_cX16_init_3 (by decide +kernel) ?_
  refine G_iconst 0 dr_cX16_init_4 (by decide +kernel) ?_
  refine Gw_callI (As := [.null, .null, .int 0, .int 0]) (gV_ok D I) (cp_674136_RuntimeException_init l hl0 D I P674124 F674125 q674126 p674128 p674129 hmq674126 heq674126 bp674129) dr_cX16_init_5 ⟨wr_9_113, wr_1_25, wr_9_115, by decide, rfl, (Nat.le_of_ble_eq_true rfl), (Nat.le_of_ble_eq_true rfl)⟩ wr_9_114 rfl (show 0 + 0 ≤ 0 by first | omega | decide) (show 0 + 0 ≤ 0 by first | omega | decide) (Nat.le_of_ble_eq_true rfl) (fun r674302 w674303 dc674299 ds674300 hp674301 => ?_)
  obtain ⟨F674304, rfl, rfl, hfr674306, he674307, hdc, hds⟩ := hp674301
  have hfr674308 : rFr [q674126] P674124 F674125 F674304 := rFr_call (rSub_rf (P := P674124)) (rFr_rf (W := []) (P := P674124) (F := F674125)) hfr674306 (fun b hb hn => ⟨nm_n, (nm_c (fun e => hn (e ▸ List.mem_cons_self)) nm_n)⟩)
  change G _ _ _ _ _ _ _ _ _ _ _
  refine G_widen (cs' := 0) (sl' := 0) (by omega) (by omega) ?_
  refine G_aload_n 0 dr_cX16_init_8 rfl ?_
  refine G_iload_n 1 dr_cX16_init_9 rfl ?_
  refine Gp_putF 6 hmq674126 he674307 dr_cX16_init_10 (gk_X16 D I) (Nat.le_of_ble_eq_true rfl) wr_9_122 rfl rfl rfl rfl rfl (Nat.le_of_ble_eq_true rfl) (fun F674309 e674310 n674311 => ?_)
  have he674312 : F674309 q674126 = .inr (21, [.null, .null, .null, .null, .null, .int p674128, .int p674127]) := e674310
  have hfr674313 : rFr [q674126] P674124 F674125 F674309 := rFr_put' List.mem_cons_self hfr674308 n674311
  exact G_vretA dr_cX16_init_13 rfl (Nat.le_of_ble_eq_true rfl) (Nat.le_of_ble_eq_true rfl) ⟨F674309, rfl, rfl, hfr674313, he674312, (Nat.le_of_ble_eq_true rfl), (Nat.le_of_ble_eq_true rfl)⟩
abbrev ky_674107_Reader_no : gKey := (cX14_no, 1, "SpillForgeModel$Reader", (some (FieldType.object "SpillForgeModel$Wrong")), [], "no", fun _ _ => True)
def pp_674107_Reader_no (D : va_G) (I : FieldType → ClassId) (P674089 : List Nat) (F674090 : Nat → va_E) (q674091 : Nat) (q674092 : Nat) (p674093 : Int32) (p674094 : Int32) (p674095 : Int32) (p674096 : Int32) (p674097 : Int32) (p674098 : Int32) (qo674099 : Nat) (p674100 : Int32) (p674101 : Int32) (p674102 : Int32) (qo674103 : Nat) (qo674104 : Nat) (p674105 : Int32) (f674106 : Nat → Int32) : Option Value → va_W → Nat → Nat → Prop := fun r w dc ds => ∃ (P674329 : List Nat) (F674330 : Nat → va_E) (q674328 : Nat), r = some (.ref q674328) ∧ w = va_pl P674329 F674330 ∧ rSub P674089 P674329 ∧ rFr [] P674089 F674090 F674330 ∧ F674330 q674091 = .inr (19, [.ref q674092, .int p674093, .int p674094, .int p674095, .int p674096, .int p674097, .int p674098, .ref qo674099, .int p674100, .int p674101, .int p674102, .ref qo674103, .ref qo674104, .int p674105]) ∧ F674330 q674092 = .inl (I .byte, 8192, .inl f674106) ∧ F674330 q674328 = .inr (21, [.null, .null, .null, .null, .null, .int 0, .int p674096]) ∧ q674328 ∈ P674329 ∧ q674328 ∉ P674089 ∧ dc ≤ 1 ∧ ds ≤ 7
set_option maxRecDepth 100000 in
set_option maxHeartbeats 4000000 in
theorem cp_674107_Reader_no (l : Launch) (hl0 : l.stackTraces = false) (D : va_G) (I : FieldType → ClassId) (P674089 : List Nat) (F674090 : Nat → va_E) (q674091 : Nat) (q674092 : Nat) (p674093 : Int32) (p674094 : Int32) (p674095 : Int32) (p674096 : Int32) (p674097 : Int32) (p674098 : Int32) (qo674099 : Nat) (p674100 : Int32) (p674101 : Int32) (p674102 : Int32) (qo674103 : Nat) (qo674104 : Nat) (p674105 : Int32) (f674106 : Nat → Int32) (hmq674091 : q674091 ∈ P674089) (hmq674092 : q674092 ∈ P674089) (heq674091 : F674090 q674091 = .inr (19, [.ref q674092, .int p674093, .int p674094, .int p674095, .int p674096, .int p674097, .int p674098, .ref qo674099, .int p674100, .int p674101, .int p674102, .ref qo674103, .ref qo674104, .int p674105])) (heq674092 : F674090 q674092 = .inl (I .byte, 8192, .inl f674106)) (bp674093 : gB p674093 0 8192) (bp674094 : gB p674094 0 8192) (bp674095 : gB p674095 0 6) (bp674096 : gB p674096 0 8192) (bp674098 : gB p674098 0 6) (bp674100 : gB p674100 (-1) 8192) (bp674101 : gB p674101 0 4) (bp674102 : gB p674102 0 1000000) (bp674105 : gB p674105 0 1000000) (bf674106 : gF f674106 (-128) 127) : CtA (gV D I) l yX14_no cX14_no 1 (some (FieldType.object "SpillForgeModel$Wrong")) 5 105 1 7 [.ref q674091] (va_pl P674089 F674090) (pp_674107_Reader_no D I P674089 F674090 q674091 q674092 p674093 p674094 p674095 p674096 p674097 p674098 qo674099 p674100 p674101 p674102 qo674103 qo674104 p674105 f674106) gNA := by
  refine CtA_of hl0 (by decide) (Nat.le_of_ble_eq_true rfl) ?_
  have bp674097 := gB_any p674097
  refine G_new [.null, .null, .null, .null, .null, .int 0, .int 0] dr_cX14_no_0 (gk_X16 D I) wr_9_101 wr_9_102 wr_1_37 (gfs_X16) (show 0 + 1 ≤ 1 by first | omega | decide) (show 0 + 7 ≤ 7 by first | omega | decide) (fun q674108 => Gp_in (fun P674109 F674110 hq674111 hP674112 e674113 n674114 => ?_))
  refine G_widen (cs' := 1) (sl' := 7) (by omega) (by omega) ?_
  have he674115 : F674110 q674091 = .inr (19, [.ref q674092, .int p674093, .int p674094, .int p674095, .int p674096, .int p674097, .int p674098, .ref qo674099, .int p674100, .int p674101, .int p674102, .ref qo674103, .ref qo674104, .int p674105]) := (n674114 q674091 (fun h => hq674111 (h ▸ hmq674091))).trans heq674091
  have he674116 : F674110 q674092 = .inl (I .byte, 8192, .inl f674106) := (n674114 q674092 (fun h => hq674111 (h ▸ hmq674092))).trans heq674092
  have he674117 : F674110 q674108 = .inr (21, [.null, .null, .null, .null, .null, .int 0, .int 0]) := e674113
  have hm674118 : q674091 ∈ P674109 := (hP674112 q674091).mpr (Or.inl hmq674091)
  have hm674119 : q674092 ∈ P674109 := (hP674112 q674092).mpr (Or.inl hmq674092)
  have hm674120 : q674108 ∈ P674109 := (hP674112 q674108).mpr (Or.inr rfl)
  have hq674121 : q674108 ∉ P674089 := fun z => hq674111 ((rSub_rf (P := P674089)) q674108 z)
  have hfr674122 : rFr [] P674089 F674090 F674110 := rFr_new (rSub_rf (P := P674089)) hq674111 (rFr_rf (W := []) (P := P674089) (F := F674090)) n674114
  have hsb674123 : rSub P674089 P674109 := rSub_new (rSub_rf (P := P674089)) hP674112
  refine G_dup dr_cX14_no_3 rfl ?_
  refine G_aload_n 0 dr_cX14_no_4 rfl ?_
  refine Gp_get 4 hm674118 he674115 dr_cX14_no_5 (gk_X14 D I) (Nat.le_of_ble_eq_true rfl) wr_9_40 rfl ?_
  refine Gw_callI (As := [.int p674096]) (gV_ok D I) (cp_674130_Wrong_init l hl0 D I P674109 F674110 q674108 p674096 0 0 hm674120 he674117 (gB_w (gBl (show Int32.toInt 0 = 0 by decide)) (by decide) (by decide))) dr_cX14_no_8 ⟨wr_9_110, wr_1_37, wr_9_112, by decide, rfl, (Nat.le_of_ble_eq_true rfl), (Nat.le_of_ble_eq_true rfl)⟩ wr_9_111 rfl (show 1 + 0 ≤ 1 by first | omega | decide) (show 7 + 0 ≤ 7 by first | omega | decide) (Nat.le_of_ble_eq_true rfl) (fun r674319 w674320 dc674316 ds674317 hp674318 => ?_)
  obtain ⟨F674321, rfl, rfl, hfr674323, he674324, hdc, hds⟩ := hp674318
  have he674325 : F674321 q674091 = .inr (19, [.ref q674092, .int p674093, .int p674094, .int p674095, .int p674096, .int p674097, .int p674098, .ref qo674099, .int p674100, .int p674101, .int p674102, .ref qo674103, .ref qo674104, .int p674105]) := (hfr674323 q674091 hm674118 (nm_c (fun h => hq674121 (h ▸ hmq674091)) nm_n)).trans he674115
  have he674326 : F674321 q674092 = .inl (I .byte, 8192, .inl f674106) := (hfr674323 q674092 hm674119 (nm_c (fun h => hq674121 (h ▸ hmq674092)) nm_n)).trans he674116
  have hfr674327 : rFr [] P674089 F674090 F674321 := rFr_call hsb674123 hfr674122 hfr674323 (fun b hb hn => ⟨nm_n, (nm_c (fun e => hq674121 (e ▸ hb)) nm_n)⟩)
  change G _ _ _ _ _ _ _ _ _ _ _
  refine G_widen (cs' := 1) (sl' := 7) (by omega) (by omega) ?_
  exact G_aretA (FieldType.object "SpillForgeModel$Wrong") dr_cX14_no_11 rfl (by first | exact Or.inl ⟨_, rfl⟩ | exact Or.inr ⟨_, rfl⟩) (Or.inr ⟨_, rfl⟩) (Nat.le_of_ble_eq_true rfl) (Nat.le_of_ble_eq_true rfl) ⟨P674109, F674321, q674108, rfl, rfl, hsb674123, hfr674327, he674325, he674326, he674324, hm674120, hq674121, (Nat.le_of_ble_eq_true rfl), (Nat.le_of_ble_eq_true rfl)⟩
/- tr_RReader_is: result -/
def tr_RReader_is (bs : List Int32) (a0_kind : Int32) (xt : gTx) (o1 : Int32) : Prop := ∀ R : (Int32) → Prop,
  (a0_kind.toInt = 5 → tr_RString_equals bs xt.2 xt.1 (0 : Int32) → R (0 : Int32)) →
  (a0_kind.toInt = 5 → tr_RString_equals bs xt.2 xt.1 (1 : Int32) → R (1 : Int32)) →
  (a0_kind.toInt ≠ 5 → a0_kind.toInt ≠ 1 → R (0 : Int32)) →
  (a0_kind.toInt ≠ 5 → a0_kind.toInt = 1 → tr_RString_equals bs xt.2 xt.1 (0 : Int32) → R (0 : Int32)) →
  (a0_kind.toInt ≠ 5 → a0_kind.toInt = 1 → tr_RString_equals bs xt.2 xt.1 (1 : Int32) → R (1 : Int32)) →
  R o1
abbrev ky_674354_Reader_is : gKey := (cX14_is, 2, "SpillForgeModel$Reader", (some FieldType.boolean), [], "is", fun _ _ => True)
def pp_674354_Reader_is (D : va_G) (I : FieldType → ClassId) (P674331 : List Nat) (F674332 : Nat → va_E) (q674333 : Nat) (q674334 : Nat) (qs674335 : Nat) (qb674336 : Nat) (bs674337 : List Int32) (p674338 : Int32) (p674339 : Int32) (p674340 : Int32) (p674341 : Int32) (p674342 : Int32) (p674343 : Int32) (qo674344 : Nat) (p674345 : Int32) (p674346 : Int32) (p674347 : Int32) (qo674348 : Nat) (qo674349 : Nat) (p674350 : Int32) (f674351 : Nat → Int32) (xt674352 : gTx) : Option Value → va_W → Nat → Nat → Prop := fun r w dc ds => ∃ (o674409 : Int32), r = some (.int o674409) ∧ w = va_pl P674331 F674332 ∧ dc ≤ 0 ∧ ds ≤ 0 ∧ gB o674409 0 1 ∧ isK p674340 o674409 ∧ tr_RReader_is bs674337 p674340 xt674352 o674409
set_option maxRecDepth 100000 in
set_option maxHeartbeats 4000000 in
theorem cp_674354_Reader_is (l : Launch) (hl0 : l.stackTraces = false) (D : va_G) (I : FieldType → ClassId) (P674331 : List Nat) (F674332 : Nat → va_E) (q674333 : Nat) (q674334 : Nat) (qs674335 : Nat) (qb674336 : Nat) (bs674337 : List Int32) (p674338 : Int32) (p674339 : Int32) (p674340 : Int32) (p674341 : Int32) (p674342 : Int32) (p674343 : Int32) (qo674344 : Nat) (p674345 : Int32) (p674346 : Int32) (p674347 : Int32) (qo674348 : Nat) (qo674349 : Nat) (p674350 : Int32) (f674351 : Nat → Int32) (xt674352 : gTx) (hmq674333 : q674333 ∈ P674331) (hmq674334 : q674334 ∈ P674331) (heq674333 : F674332 q674333 = .inr (19, [.ref q674334, .int p674338, .int p674339, .int p674340, .int p674341, .int p674342, .int p674343, .ref qo674344, .int p674345, .int p674346, .int p674347, .ref qo674348, .ref qo674349, .int p674350])) (heq674334 : F674332 q674334 = .inl (I .byte, 8192, .inl f674351)) (hbs674337 : ∀ A s H, (gV D I).2.2.2.1 A s H → gSC qs674335 qb674336 bs674337 A s H) (nbs674337 : (bs674337.length : Int) ≤ 65535) (lbs674337 : gLB bs674337) (bp674338 : gB p674338 0 8192) (bp674339 : gB p674339 0 8192) (bp674340 : gB p674340 0 6) (bp674341 : gB p674341 0 8192) (bp674343 : gB p674343 0 6) (bp674345 : gB p674345 (-1) 8192) (bp674346 : gB p674346 0 4) (bp674347 : gB p674347 0 1000000) (bp674350 : gB p674350 0 1000000) (bf674351 : gF f674351 (-128) 127) (x674353 : tP I P674331 F674332 p674340 qo674344 qo674349 qo674348 xt674352) : CtA (gV D I) l yX14_is cX14_is 2 (some FieldType.boolean) 2 44 0 0 [.ref q674333, .ref qs674335] (va_pl P674331 F674332) (pp_674354_Reader_is D I P674331 F674332 q674333 q674334 qs674335 qb674336 bs674337 p674338 p674339 p674340 p674341 p674342 p674343 qo674344 p674345 p674346 p674347 qo674348 qo674349 p674350 f674351 xt674352) gNA := by
  refine CtA_of hl0 (by decide) (Nat.le_of_ble_eq_true rfl) ?_
  have bp674342 := gB_any p674342
  refine G_aload_n 0 dr_cX14_is_0 rfl ?_
  refine Gp_get 3 hmq674333 heq674333 dr_cX14_is_1 (gk_X14 D I) (Nat.le_of_ble_eq_true rfl) wr_9_39 rfl ?_
  refine G_iconst 5 dr_cX14_is_4 (by decide +kernel) ?_
  refine G_icmp_eq 16 dr_cX14_is_5 (by decide +kernel) (fun hc674355 => ?_) (fun hc674355 => ?_)
  · have r674356 : p674340.toInt = 5 := gj_eq hc674355 (show Int32.toInt 5 = 5 by decide)
    have bp674340' : gB p674340 5 5 := ⟨by omega, by omega⟩
    refine G_aload_n 0 dr_cX14_is_16 rfl ?_
    refine Gp_get 7 hmq674333 heq674333 dr_cX14_is_17 (gk_X14 D I) (Nat.le_of_ble_eq_true rfl) wr_9_43 rfl ?_
    obtain ⟨q674357, p674358, p674359, hm674360, he674361, hm674362, he674363, bq674357, x674364, bp674359, hg674365, hg674366⟩ := x674353.2 (by omega)
    have bp674358 := gB_any p674358
    refine G_aload_n 1 dr_cX14_is_20 rfl ?_
    refine Gw_callV (As := [.ref qs674335]) (gV_ok D I) (cp_660024_String_equals l hl0 D I P674331 F674332 qo674344 q674357 qs674335 qb674336 bs674337 p674358 p674359 xt674352.2 xt674352.1 hm674360 hm674362 he674361 he674363 hbs674337 nbs674337 lbs674337 bp674359 bq674357 (by have qa0 : Int32.toInt 0 = 0 := (by decide); omega)) dr_cX14_is_21 ⟨wr_9_145, wr_1_21, wr_9_148, by decide, rfl, (Nat.le_of_ble_eq_true rfl), (Nat.le_of_ble_eq_true rfl)⟩ wr_9_146 wr_9_147 hm674360 he674361 rfl (show 0 + 0 ≤ 0 by first | omega | decide) (show 0 + 0 ≤ 0 by first | omega | decide) (Nat.le_of_ble_eq_true rfl) (fun r674370 w674371 dc674367 ds674368 hp674369 => ?_) (fun _ _ _ _ _ z => z.elim)
    rcases hp674369 with ⟨o674372, rfl, rfl, hdc, hds, r674373, r674374, r674375⟩ | ⟨o674376, rfl, rfl, hdc, hds, r674377, r674378, r674379⟩
    · change G _ _ _ _ _ _ _ (.int 0 :: _) _ _ _
      refine G_widen (cs' := 0) (sl' := 0) (by omega) (by omega) ?_
      refine G_if_eq 31 dr_cX14_is_24 (by decide +kernel) (fun _ => ?_) (fun hc => absurd hc (by decide))
      refine G_iconst 0 dr_cX14_is_31 (by decide +kernel) ?_
      exact G_zretA FieldType.boolean dr_cX14_is_32 rfl rfl (Nat.le_of_ble_eq_true rfl) (Nat.le_of_ble_eq_true rfl) ⟨0, rfl, rfl, (Nat.le_of_ble_eq_true rfl), (Nat.le_of_ble_eq_true rfl), (gB_w (gBl (show Int32.toInt 0 = 0 by decide)) (by decide) (by decide)), (Or.inl (by decide)), (fun R c1 c2 c3 c4 c5 => c1 r674356 r674375)⟩
    · change G _ _ _ _ _ _ _ (.int 1 :: _) _ _ _
      refine G_widen (cs' := 0) (sl' := 0) (by omega) (by omega) ?_
      refine G_if_eq 31 dr_cX14_is_24 (by decide +kernel) (fun hc => absurd hc (by decide)) (fun _ => ?_)
      refine G_iconst 1 dr_cX14_is_27 (by decide +kernel) ?_
      refine G_goto 32 dr_cX14_is_28 (by decide +kernel) ?_
      exact G_zretA FieldType.boolean dr_cX14_is_32 rfl rfl (Nat.le_of_ble_eq_true rfl) (Nat.le_of_ble_eq_true rfl) ⟨1, rfl, rfl, (Nat.le_of_ble_eq_true rfl), (Nat.le_of_ble_eq_true rfl), (gB_w (gBl (show Int32.toInt 1 = 1 by decide)) (by decide) (by decide)), (Or.inr (by omega)), (fun R c1 c2 c3 c4 c5 => c2 r674356 r674379)⟩
  · have r674381 : p674340.toInt ≠ 5 := gj_neq hc674355 (show Int32.toInt 5 = 5 by decide)
    refine G_aload_n 0 dr_cX14_is_8 rfl ?_
    refine Gp_get 3 hmq674333 heq674333 dr_cX14_is_9 (gk_X14 D I) (Nat.le_of_ble_eq_true rfl) wr_9_39 rfl ?_
    refine G_iconst 1 dr_cX14_is_12 (by decide +kernel) ?_
    refine G_icmp_ne 31 dr_cX14_is_13 (by decide +kernel) (fun hc674382 => ?_) (fun hc674382 => ?_)
    · have r674383 : p674340.toInt ≠ 1 := gj_neq hc674382 (show Int32.toInt 1 = 1 by decide)
      refine G_iconst 0 dr_cX14_is_31 (by decide +kernel) ?_
      exact G_zretA FieldType.boolean dr_cX14_is_32 rfl rfl (Nat.le_of_ble_eq_true rfl) (Nat.le_of_ble_eq_true rfl) ⟨0, rfl, rfl, (Nat.le_of_ble_eq_true rfl), (Nat.le_of_ble_eq_true rfl), (gB_w (gBl (show Int32.toInt 0 = 0 by decide)) (by decide) (by decide)), (Or.inl (by decide)), (fun R c1 c2 c3 c4 c5 => c3 r674381 r674383)⟩
    · have r674384 : p674340.toInt = 1 := gj_eq hc674382 (show Int32.toInt 1 = 1 by decide)
      have bp674340' : gB p674340 1 1 := ⟨by omega, by omega⟩
      refine G_aload_n 0 dr_cX14_is_16 rfl ?_
      refine Gp_get 7 hmq674333 heq674333 dr_cX14_is_17 (gk_X14 D I) (Nat.le_of_ble_eq_true rfl) wr_9_43 rfl ?_
      obtain ⟨q674385, p674386, p674387, hm674388, he674389, hm674390, he674391, bq674385, x674392, bp674387, hg674393, hg674394⟩ := x674353.1 (by omega)
      have bp674386 := gB_any p674386
      refine G_aload_n 1 dr_cX14_is_20 rfl ?_
      refine Gw_callV (As := [.ref qs674335]) (gV_ok D I) (cp_660024_String_equals l hl0 D I P674331 F674332 qo674344 q674385 qs674335 qb674336 bs674337 p674386 p674387 xt674352.2 xt674352.1 hm674388 hm674390 he674389 he674391 hbs674337 nbs674337 lbs674337 bp674387 bq674385 (by have qa0 : Int32.toInt 0 = 0 := (by decide); omega)) dr_cX14_is_21 ⟨wr_9_145, wr_1_21, wr_9_148, by decide, rfl, (Nat.le_of_ble_eq_true rfl), (Nat.le_of_ble_eq_true rfl)⟩ wr_9_146 wr_9_147 hm674388 he674389 rfl (show 0 + 0 ≤ 0 by first | omega | decide) (show 0 + 0 ≤ 0 by first | omega | decide) (Nat.le_of_ble_eq_true rfl) (fun r674398 w674399 dc674395 ds674396 hp674397 => ?_) (fun _ _ _ _ _ z => z.elim)
      rcases hp674397 with ⟨o674400, rfl, rfl, hdc, hds, r674401, r674402, r674403⟩ | ⟨o674404, rfl, rfl, hdc, hds, r674405, r674406, r674407⟩
      · change G _ _ _ _ _ _ _ (.int 0 :: _) _ _ _
        refine G_widen (cs' := 0) (sl' := 0) (by omega) (by omega) ?_
        refine G_if_eq 31 dr_cX14_is_24 (by decide +kernel) (fun _ => ?_) (fun hc => absurd hc (by decide))
        refine G_iconst 0 dr_cX14_is_31 (by decide +kernel) ?_
        exact G_zretA FieldType.boolean dr_cX14_is_32 rfl rfl (Nat.le_of_ble_eq_true rfl) (Nat.le_of_ble_eq_true rfl) ⟨0, rfl, rfl, (Nat.le_of_ble_eq_true rfl), (Nat.le_of_ble_eq_true rfl), (gB_w (gBl (show Int32.toInt 0 = 0 by decide)) (by decide) (by decide)), (Or.inl (by decide)), (fun R c1 c2 c3 c4 c5 => c4 r674381 r674384 r674403)⟩
      · change G _ _ _ _ _ _ _ (.int 1 :: _) _ _ _
        refine G_widen (cs' := 0) (sl' := 0) (by omega) (by omega) ?_
        refine G_if_eq 31 dr_cX14_is_24 (by decide +kernel) (fun hc => absurd hc (by decide)) (fun _ => ?_)
        refine G_iconst 1 dr_cX14_is_27 (by decide +kernel) ?_
        refine G_goto 32 dr_cX14_is_28 (by decide +kernel) ?_
        exact G_zretA FieldType.boolean dr_cX14_is_32 rfl rfl (Nat.le_of_ble_eq_true rfl) (Nat.le_of_ble_eq_true rfl) ⟨1, rfl, rfl, (Nat.le_of_ble_eq_true rfl), (Nat.le_of_ble_eq_true rfl), (gB_w (gBl (show Int32.toInt 1 = 1 by decide)) (by decide) (by decide)), (Or.inr (by omega)), (fun R c1 c2 c3 c4 c5 => c5 r674381 r674384 r674407)⟩
/- tr_RReader_want: a.0...at, a.0...kind, a.0...place, a.0...value -/
def tr_RReader_want (bs : List Int32) (a0_n : Int32) (a0_at : Int32) (a0_kind : Int32) (a0_value : Int32) (a0_t_v : Nat → Int32) (xt : gTx) (o1 : Int32) (o2 : Int32) (o3 : Int32) (o4 : Int32) (o5 : gTx) : Prop := ∀ R : (Int32) → (Int32) → (Int32) → (Int32) → (gTx) → Prop,
  (∀ (x1 : Int32) (x2 : gTx) (x3 : Int32) (x4 : Int32) (x5 : Int32) (x6 : Int32), gB x1 0 1 → tr_RReader_is bs a0_kind xt x1 → x1.toInt ≠ 0 → gB x3 0 8192 → gB x4 0 6 → gB x5 0 8192 → tr_RReader_next a0_n a0_at a0_kind a0_value a0_t_v x3 x4 x5 x6 x2 → R x3 x4 x5 x6 x2) →
  R o1 o2 o3 o4 o5
/- tx_RReader_want: throws -/
def tx_RReader_want (bs : List Int32) (a0_kind : Int32) (xt : gTx) : Prop := ∀ R : Prop,
  (∀ (x1 : Int32), gB x1 0 1 → tr_RReader_is bs a0_kind xt x1 → x1.toInt = 0 → R) →
  R
abbrev ky_674436_Reader_want : gKey := (cX14_want, 2, "SpillForgeModel$Reader", none, [], "want", fun _ _ => True)
def pp_674436_Reader_want (D : va_G) (I : FieldType → ClassId) (P674410 : List Nat) (F674411 : Nat → va_E) (q674412 : Nat) (q674413 : Nat) (qs674414 : Nat) (qb674415 : Nat) (bs674416 : List Int32) (p674417 : Int32) (p674418 : Int32) (p674419 : Int32) (p674420 : Int32) (p674421 : Int32) (p674422 : Int32) (qo674423 : Nat) (p674424 : Int32) (p674425 : Int32) (p674426 : Int32) (qo674427 : Nat) (qo674428 : Nat) (p674429 : Int32) (f674430 : Nat → Int32) (xt674431 : gTx) : Option Value → va_W → Nat → Nat → Prop := fun r w dc ds => ∃ (P674501 : List Nat) (F674502 : Nat → va_E) (o674496 : Int32) (o674497 : Int32) (o674498 : Int32) (o674499 : Int32) (q674500 : Nat) (xt674503 : gTx), r = none ∧ w = va_pl P674501 F674502 ∧ rSub P674410 P674501 ∧ rFr [q674412] P674410 F674411 F674502 ∧ F674502 q674412 = .inr (19, [.ref q674413, .int p674417, .int o674496, .int o674497, .int o674498, .int o674499, .int p674419, .ref q674500, .int p674424, .int p674425, .int p674426, .ref qo674427, .ref qo674428, .int p674429]) ∧ F674502 q674413 = .inl (I .byte, 8192, .inl f674430) ∧ dc ≤ (16 * (o674496.toInt - p674418.toInt)).toNat ∧ ds ≤ (160 * (o674496.toInt - p674418.toInt)).toNat ∧ gB o674496 0 8192 ∧ gB o674497 0 6 ∧ gB o674498 0 8192 ∧ p674418.toInt ≤ o674496.toInt ∧ prP o674497 p674418 o674496 ∧ o674496.toInt ≤ p674417.toInt ∧ tP I P674501 F674502 o674497 q674500 qo674428 qo674427 xt674503 ∧ vP o674497 o674499 ∧ nzK p674419 ∧ tr_RReader_want bs674416 p674417 p674418 p674419 p674421 f674430 xt674431 o674496 o674497 o674498 o674499 xt674503
def xp_674436_Reader_want (D : va_G) (I : FieldType → ClassId) (P674410 : List Nat) (F674411 : Nat → va_E) (q674412 : Nat) (q674413 : Nat) (qs674414 : Nat) (qb674415 : Nat) (bs674416 : List Int32) (p674417 : Int32) (p674418 : Int32) (p674419 : Int32) (p674420 : Int32) (p674421 : Int32) (p674422 : Int32) (qo674423 : Nat) (p674424 : Int32) (p674425 : Int32) (p674426 : Int32) (qo674427 : Nat) (qo674428 : Nat) (p674429 : Int32) (f674430 : Nat → Int32) (xt674431 : gTx) : String → Nat → va_W → Nat → Nat → Prop := fun E q w dc ds => ∃ (P674505 : List Nat) (F674504 : Nat → va_E), E = "SpillForgeModel$Wrong" ∧ w = va_pl P674505 F674504 ∧ rSub P674410 P674505 ∧ rFr [] P674410 F674411 F674504 ∧ q ∈ P674505 ∧ q ∉ P674410 ∧ wrF F674504 q ∧ dc ≤ (16 * (p674417.toInt - p674418.toInt)).toNat + 1 ∧ ds ≤ (160 * (p674417.toInt - p674418.toInt)).toNat + 7 ∧ tx_RReader_want bs674416 p674419 xt674431
set_option maxRecDepth 100000 in
set_option maxHeartbeats 4000000 in
theorem cp_674436_Reader_want (l : Launch) (hl0 : l.stackTraces = false) (D : va_G) (I : FieldType → ClassId) (P674410 : List Nat) (F674411 : Nat → va_E) (q674412 : Nat) (q674413 : Nat) (qs674414 : Nat) (qb674415 : Nat) (bs674416 : List Int32) (p674417 : Int32) (p674418 : Int32) (p674419 : Int32) (p674420 : Int32) (p674421 : Int32) (p674422 : Int32) (qo674423 : Nat) (p674424 : Int32) (p674425 : Int32) (p674426 : Int32) (qo674427 : Nat) (qo674428 : Nat) (p674429 : Int32) (f674430 : Nat → Int32) (xt674431 : gTx) (hmq674412 : q674412 ∈ P674410) (hmq674413 : q674413 ∈ P674410) (heq674412 : F674411 q674412 = .inr (19, [.ref q674413, .int p674417, .int p674418, .int p674419, .int p674420, .int p674421, .int p674422, .ref qo674423, .int p674424, .int p674425, .int p674426, .ref qo674427, .ref qo674428, .int p674429])) (heq674413 : F674411 q674413 = .inl (I .byte, 8192, .inl f674430)) (hbs674416 : ∀ A s H, (gV D I).2.2.2.1 A s H → gSC qs674414 qb674415 bs674416 A s H) (nbs674416 : (bs674416.length : Int) ≤ 65535) (lbs674416 : gLB bs674416) (bp674417 : gB p674417 0 8192) (bp674418 : gB p674418 0 8192) (bp674419 : gB p674419 0 6) (bp674420 : gB p674420 0 8192) (bp674422 : gB p674422 0 6) (bp674424 : gB p674424 (-1) 8192) (bp674425 : gB p674425 0 4) (bp674426 : gB p674426 0 1000000) (bp674429 : gB p674429 0 1000000) (bf674430 : gF f674430 (-128) 127) (x674432 : p674418.toInt ≤ p674417.toInt) (x674433 : qo674428 ∈ P674410) (x674434 : qo674427 ∈ P674410) (x674435 : tP I P674410 F674411 p674419 qo674423 qo674428 qo674427 xt674431) : CtA (gV D I) l yX14_want cX14_want 2 none 8 177 ((16 * (p674417.toInt - p674418.toInt)).toNat + 1) ((160 * (p674417.toInt - p674418.toInt)).toNat + 7) [.ref q674412, .ref qs674414] (va_pl P674410 F674411) (pp_674436_Reader_want D I P674410 F674411 q674412 q674413 qs674414 qb674415 bs674416 p674417 p674418 p674419 p674420 p674421 p674422 qo674423 p674424 p674425 p674426 qo674427 qo674428 p674429 f674430 xt674431) (xp_674436_Reader_want D I P674410 F674411 q674412 q674413 qs674414 qb674415 bs674416 p674417 p674418 p674419 p674420 p674421 p674422 qo674423 p674424 p674425 p674426 qo674427 qo674428 p674429 f674430 xt674431) := by
  refine CtA_of hl0 (by decide) (Nat.le_of_ble_eq_true rfl) ?_
  have bp674421 := gB_any p674421
  refine G_aload_n 0 dr_cX14_want_0 rfl ?_
  refine G_aload_n 1 dr_cX14_want_1 rfl ?_
  refine Gw_callV (As := [.ref qs674414]) (gV_ok D I) (cp_674354_Reader_is l hl0 D I P674410 F674411 q674412 q674413 qs674414 qb674415 bs674416 p674417 p674418 p674419 p674420 p674421 p674422 qo674423 p674424 p674425 p674426 qo674427 qo674428 p674429 f674430 xt674431 hmq674412 hmq674413 heq674412 heq674413 hbs674416 nbs674416 lbs674416 bp674417 bp674418 bp674419 bp674420 bp674422 bp674424 bp674425 bp674426 bp674429 bf674430 x674435) dr_cX14_want_2 ⟨wr_9_141, wr_1_32, wr_9_144, by decide, rfl, (Nat.le_of_ble_eq_true rfl), (Nat.le_of_ble_eq_true rfl)⟩ wr_9_143 wr_p_84 hmq674412 heq674412 rfl (show 0 + 0 ≤ ((16 * (p674417.toInt - p674418.toInt)).toNat + 1) by first | omega | decide) (show 0 + 0 ≤ ((160 * (p674417.toInt - p674418.toInt)).toNat + 7) by first | omega | decide) (Nat.le_of_ble_eq_true rfl) (fun r674440 w674441 dc674437 ds674438 hp674439 => ?_) (fun _ _ _ _ _ z => z.elim)
  obtain ⟨o674442, rfl, rfl, hdc, hds, bo674442, x674443, ht674444⟩ := hp674439
  change G _ _ _ _ _ _ _ (.int o674442 :: _) _ _ _
  refine G_widen (cs' := 0) (sl' := 0) (by omega) (by omega) ?_
  refine G_if_ne 13 dr_cX14_want_5 (by decide +kernel) (fun hc674445 => ?_) (fun hc674445 => ?_)
  · have r674446 : o674442.toInt ≠ 0 := gj_neq hc674445 (show Int32.toInt 0 = 0 by decide)
    have bo674442' : gB o674442 1 1 := ⟨by omega, by omega⟩
    refine G_aload_n 0 dr_cX14_want_13 rfl ?_
    refine Gw_callV (As := []) (gV_ok D I) (cp_672367_Reader_next l hl0 D I P674410 F674411 q674412 q674413 p674417 p674418 p674419 p674420 p674421 p674422 qo674423 p674424 p674425 p674426 qo674427 qo674428 p674429 f674430 hmq674412 hmq674413 heq674412 heq674413 bp674417 bp674418 bp674419 bp674420 bp674422 bp674424 bp674425 bp674426 bp674429 bf674430 (by omega) x674433 x674434) dr_cX14_want_14 ⟨wr_7_215, wr_1_32, wr_7_218, by decide, rfl, (Nat.le_of_ble_eq_true rfl), (Nat.le_of_ble_eq_true rfl)⟩ wr_7_217 wr_p_75 hmq674412 heq674412 rfl (show 0 + ((16 * (p674417.toInt - p674418.toInt)).toNat) ≤ ((16 * (p674417.toInt - p674418.toInt)).toNat + 1) by first | omega | decide) (show 0 + ((160 * (p674417.toInt - p674418.toInt)).toNat) ≤ ((160 * (p674417.toInt - p674418.toInt)).toNat + 7) by first | omega | decide) (Nat.le_of_ble_eq_true rfl) (fun r674450 w674451 dc674447 ds674448 hp674449 => ?_) (fun _ _ _ _ _ z => z.elim)
    obtain ⟨P674464, F674465, o674452, o674453, o674454, o674455, q674456, xt674463, rfl, rfl, hsb674466, hfr674467, he674468, he674469, hdc, hds, bo674452, bo674453, bo674454, x674457, x674458, x674459, x674460, x674461, ht674462⟩ := hp674449
    have hm674470 : q674412 ∈ P674464 := hsb674466 q674412 hmq674412
    have hm674471 : q674413 ∈ P674464 := hsb674466 q674413 hmq674413
    have hsb674472 : rSub P674410 P674464 := rSub_tr (rSub_rf (P := P674410)) hsb674466
    have hfr674473 : rFr [q674412] P674410 F674411 F674465 := rFr_call (rSub_rf (P := P674410)) (rFr_rf (W := []) (P := P674410) (F := F674411)) hfr674467 (fun b hb hn => ⟨nm_n, (nm_c (fun e => hn (e ▸ List.mem_cons_self)) nm_n)⟩)
    have bo674455 := gB_any o674455
    change G _ _ _ _ _ _ _ _ _ _ _
    refine G_widen (cs' := (16 * (o674452.toInt - p674418.toInt)).toNat) (sl' := (160 * (o674452.toInt - p674418.toInt)).toNat) (by omega) (by omega) ?_
    exact G_vretA dr_cX14_want_17 rfl (show (16 * (o674452.toInt - p674418.toInt)).toNat ≤ ((16 * (p674417.toInt - p674418.toInt)).toNat + 1) by omega) (show (160 * (o674452.toInt - p674418.toInt)).toNat ≤ ((160 * (p674417.toInt - p674418.toInt)).toNat + 7) by omega) ⟨P674464, F674465, o674452, o674453, o674454, o674455, q674456, xt674463, rfl, rfl, hsb674472, hfr674473, he674468, he674469, (by omega), (by omega), bo674452, bo674453, bo674454, (by omega), x674458, (by omega), x674460, x674461, (isK_1 x674443 (by omega)), (fun R c1 => c1 o674442 xt674463 o674452 o674453 o674454 o674455 bo674442 ht674444 r674446 bo674452 bo674453 bo674454 ht674462)⟩
  · have r674474 : o674442.toInt = 0 := gj_eq hc674445 (show Int32.toInt 0 = 0 by decide)
    have bo674442' : gB o674442 0 0 := ⟨by omega, by omega⟩
    refine G_aload_n 0 dr_cX14_want_8 rfl ?_
    refine Gw_callV (As := []) (gV_ok D I) (cp_674107_Reader_no l hl0 D I P674410 F674411 q674412 q674413 p674417 p674418 p674419 p674420 p674421 p674422 qo674423 p674424 p674425 p674426 qo674427 qo674428 p674429 f674430 hmq674412 hmq674413 heq674412 heq674413 bp674417 bp674418 bp674419 bp674420 bp674422 bp674424 bp674425 bp674426 bp674429 bf674430) dr_cX14_want_9 ⟨wr_9_97, wr_1_32, wr_9_100, by decide, rfl, (Nat.le_of_ble_eq_true rfl), (Nat.le_of_ble_eq_true rfl)⟩ wr_9_99 wr_p_81 hmq674412 heq674412 rfl (show 0 + 1 ≤ ((16 * (p674417.toInt - p674418.toInt)).toNat + 1) by first | omega | decide) (show 0 + 7 ≤ ((160 * (p674417.toInt - p674418.toInt)).toNat + 7) by first | omega | decide) (Nat.le_of_ble_eq_true rfl) (fun r674478 w674479 dc674475 ds674476 hp674477 => ?_) (fun _ _ _ _ _ z => z.elim)
    obtain ⟨P674481, F674482, q674480, rfl, rfl, hsb674483, hfr674484, he674485, he674486, he674487, hm674488, hq674489, hdc, hds⟩ := hp674477
    have hm674490 : q674412 ∈ P674481 := hsb674483 q674412 hmq674412
    have hm674491 : q674413 ∈ P674481 := hsb674483 q674413 hmq674413
    have hq674492 : q674480 ∉ P674410 := fun z => hq674489 ((rSub_rf (P := P674410)) q674480 z)
    have hsb674493 : rSub P674410 P674481 := rSub_tr (rSub_rf (P := P674410)) hsb674483
    have hfr674494 : rFr [] P674410 F674411 F674482 := rFr_call (rSub_rf (P := P674410)) (rFr_rf (W := []) (P := P674410) (F := F674411)) hfr674484 (fun b hb hn => ⟨nm_n, nm_n⟩)
    have tp674495 : tP I P674481 F674482 p674419 qo674423 qo674428 qo674427 xt674431 := tP_new x674435 hsb674483 (fun b hb => hfr674484 b hb (fun z => by cases z)) (Or.inl rfl) (Or.inl rfl)
    change G _ _ _ _ _ _ _ (.ref q674480 :: _) _ _ _
    refine G_widen (cs' := 1) (sl' := 7) (by omega) (by omega) ?_
    exact Gp_athrow hm674488 he674487 rfl dr_cX14_want_12 (GT_outA rfl (show 1 ≤ ((16 * (p674417.toInt - p674418.toInt)).toNat + 1) by omega) (show 7 ≤ ((160 * (p674417.toInt - p674418.toInt)).toNat + 7) by omega) ⟨P674481, F674482, rfl, rfl, hsb674493, hfr674494, hm674488, hq674492, ⟨_, _, _, _, _, _, _, he674487, by omega⟩, (by omega), (by omega), (fun R c1 => c1 o674442 bo674442 ht674444 r674474)⟩)
/- tr_RReader_want2: a.0...at, a.0...kind, a.0...place, a.0...value -/
def tr_RReader_want2 (a1 : Int32) (a0_n : Int32) (a0_at : Int32) (a0_kind : Int32) (a0_value : Int32) (a0_t_v : Nat → Int32) (o1 : Int32) (o2 : Int32) (o3 : Int32) (o4 : Int32) (o5 : gTx) : Prop := ∀ R : (Int32) → (Int32) → (Int32) → (Int32) → (gTx) → Prop,
  (∀ (x1 : gTx) (x2 : Int32) (x3 : Int32) (x4 : Int32) (x5 : Int32), a0_kind.toInt = a1.toInt → gB x2 0 8192 → gB x3 0 6 → gB x4 0 8192 → tr_RReader_next a0_n a0_at a0_kind a0_value a0_t_v x2 x3 x4 x5 x1 → R x2 x3 x4 x5 x1) →
  R o1 o2 o3 o4 o5
/- tx_RReader_want2: throws -/
def tx_RReader_want2 (a1 : Int32) (a0_kind : Int32) : Prop := ∀ R : Prop,
  (a0_kind.toInt ≠ a1.toInt → R) →
  R
abbrev ky_674531_Reader_want : gKey := (cX14_want_, 3, "SpillForgeModel$Reader", (some FieldType.int), [], "want", fun _ _ => True)
def pp_674531_Reader_want (D : va_G) (I : FieldType → ClassId) (P674506 : List Nat) (F674507 : Nat → va_E) (q674508 : Nat) (q674509 : Nat) (p674510 : Int32) (p674511 : Int32) (p674512 : Int32) (p674513 : Int32) (p674514 : Int32) (p674515 : Int32) (p674516 : Int32) (qo674517 : Nat) (p674518 : Int32) (p674519 : Int32) (p674520 : Int32) (qo674521 : Nat) (qo674522 : Nat) (p674523 : Int32) (f674524 : Nat → Int32) (xt674525 : gTx) : Option Value → va_W → Nat → Nat → Prop := fun r w dc ds => ∃ (P674588 : List Nat) (F674589 : Nat → va_E) (o674583 : Int32) (o674584 : Int32) (o674585 : Int32) (o674586 : Int32) (q674587 : Nat) (xt674590 : gTx), r = some (.int p674515) ∧ w = va_pl P674588 F674589 ∧ rSub P674506 P674588 ∧ rFr [q674508] P674506 F674507 F674589 ∧ F674589 q674508 = .inr (19, [.ref q674509, .int p674511, .int o674583, .int o674584, .int o674585, .int o674586, .int p674513, .ref q674587, .int p674518, .int p674519, .int p674520, .ref qo674521, .ref qo674522, .int p674523]) ∧ F674589 q674509 = .inl (I .byte, 8192, .inl f674524) ∧ dc ≤ (16 * (o674583.toInt - p674512.toInt)).toNat ∧ ds ≤ (160 * (o674583.toInt - p674512.toInt)).toNat ∧ gB o674583 0 8192 ∧ gB o674584 0 6 ∧ gB o674585 0 8192 ∧ p674512.toInt ≤ o674583.toInt ∧ prP o674584 p674512 o674583 ∧ o674583.toInt ≤ p674511.toInt ∧ tP I P674588 F674589 o674584 q674587 qo674522 qo674521 xt674590 ∧ vP o674584 o674586 ∧ vP p674510 p674515 ∧ p674513.toInt = p674510.toInt ∧ tr_RReader_want2 p674510 p674511 p674512 p674513 p674515 f674524 o674583 o674584 o674585 o674586 xt674590
def xp_674531_Reader_want (D : va_G) (I : FieldType → ClassId) (P674506 : List Nat) (F674507 : Nat → va_E) (q674508 : Nat) (q674509 : Nat) (p674510 : Int32) (p674511 : Int32) (p674512 : Int32) (p674513 : Int32) (p674514 : Int32) (p674515 : Int32) (p674516 : Int32) (qo674517 : Nat) (p674518 : Int32) (p674519 : Int32) (p674520 : Int32) (qo674521 : Nat) (qo674522 : Nat) (p674523 : Int32) (f674524 : Nat → Int32) (xt674525 : gTx) : String → Nat → va_W → Nat → Nat → Prop := fun E q w dc ds => ∃ (P674592 : List Nat) (F674591 : Nat → va_E), E = "SpillForgeModel$Wrong" ∧ w = va_pl P674592 F674591 ∧ rSub P674506 P674592 ∧ rFr [] P674506 F674507 F674591 ∧ q ∈ P674592 ∧ q ∉ P674506 ∧ wrF F674591 q ∧ dc ≤ (16 * (p674511.toInt - p674512.toInt)).toNat + 1 ∧ ds ≤ (160 * (p674511.toInt - p674512.toInt)).toNat + 7 ∧ tx_RReader_want2 p674510 p674513
set_option maxRecDepth 100000 in
set_option maxHeartbeats 4000000 in
theorem cp_674531_Reader_want (l : Launch) (hl0 : l.stackTraces = false) (D : va_G) (I : FieldType → ClassId) (P674506 : List Nat) (F674507 : Nat → va_E) (q674508 : Nat) (q674509 : Nat) (p674510 : Int32) (p674511 : Int32) (p674512 : Int32) (p674513 : Int32) (p674514 : Int32) (p674515 : Int32) (p674516 : Int32) (qo674517 : Nat) (p674518 : Int32) (p674519 : Int32) (p674520 : Int32) (qo674521 : Nat) (qo674522 : Nat) (p674523 : Int32) (f674524 : Nat → Int32) (xt674525 : gTx) (hmq674508 : q674508 ∈ P674506) (hmq674509 : q674509 ∈ P674506) (heq674508 : F674507 q674508 = .inr (19, [.ref q674509, .int p674511, .int p674512, .int p674513, .int p674514, .int p674515, .int p674516, .ref qo674517, .int p674518, .int p674519, .int p674520, .ref qo674521, .ref qo674522, .int p674523])) (heq674509 : F674507 q674509 = .inl (I .byte, 8192, .inl f674524)) (bp674510 : gB p674510 0 6) (bp674511 : gB p674511 0 8192) (bp674512 : gB p674512 0 8192) (bp674513 : gB p674513 0 6) (bp674514 : gB p674514 0 8192) (bp674516 : gB p674516 0 6) (bp674518 : gB p674518 (-1) 8192) (bp674519 : gB p674519 0 4) (bp674520 : gB p674520 0 1000000) (bp674523 : gB p674523 0 1000000) (bf674524 : gF f674524 (-128) 127) (x674526 : p674512.toInt ≤ p674511.toInt) (x674527 : qo674522 ∈ P674506) (x674528 : qo674521 ∈ P674506) (x674529 : tP I P674506 F674507 p674513 qo674517 qo674522 qo674521 xt674525) (x674530 : vP p674513 p674515) : CtA (gV D I) l yX14_want_ cX14_want_ 3 (some FieldType.int) 8 177 ((16 * (p674511.toInt - p674512.toInt)).toNat + 1) ((160 * (p674511.toInt - p674512.toInt)).toNat + 7) [.ref q674508, .int p674510] (va_pl P674506 F674507) (pp_674531_Reader_want D I P674506 F674507 q674508 q674509 p674510 p674511 p674512 p674513 p674514 p674515 p674516 qo674517 p674518 p674519 p674520 qo674521 qo674522 p674523 f674524 xt674525) (xp_674531_Reader_want D I P674506 F674507 q674508 q674509 p674510 p674511 p674512 p674513 p674514 p674515 p674516 qo674517 p674518 p674519 p674520 qo674521 qo674522 p674523 f674524 xt674525) := by
  refine CtA_of hl0 (by decide) (Nat.le_of_ble_eq_true rfl) ?_
  have bp674515 := gB_any p674515
  refine G_aload_n 0 dr_cX14_want__0 rfl ?_
  refine Gp_get 3 hmq674508 heq674508 dr_cX14_want__1 (gk_X14 D I) (Nat.le_of_ble_eq_true rfl) wr_9_39 rfl ?_
  refine G_iload_n 1 dr_cX14_want__4 rfl ?_
  refine G_icmp_eq 13 dr_cX14_want__5 (by decide +kernel) (fun hc674532 => ?_) (fun hc674532 => ?_)
  · have r674533 : p674513.toInt = p674510.toInt := gC_eq hc674532
    refine G_aload_n 0 dr_cX14_want__13 rfl ?_
    refine Gp_get 5 hmq674508 heq674508 dr_cX14_want__14 (gk_X14 D I) (Nat.le_of_ble_eq_true rfl) wr_9_41 rfl ?_
    refine G_istore_n (L' := [(2, .int p674515), (0, .ref q674508), (1, .int p674510)]) dr_cX14_want__17 (Nat.le_of_ble_eq_true rfl) rfl ?_
    refine G_aload_n 1 dr_cX14_want__18 rfl ?_
    refine Gw_callV (As := []) (gV_ok D I) (cp_672367_Reader_next l hl0 D I P674506 F674507 q674508 q674509 p674511 p674512 p674513 p674514 p674515 p674516 qo674517 p674518 p674519 p674520 qo674521 qo674522 p674523 f674524 hmq674508 hmq674509 heq674508 heq674509 bp674511 bp674512 bp674513 bp674514 bp674516 bp674518 bp674519 bp674520 bp674523 bf674524 (by omega) x674527 x674528) dr_cX14_want__19 ⟨wr_7_215, wr_1_32, wr_7_218, by decide, rfl, (Nat.le_of_ble_eq_true rfl), (Nat.le_of_ble_eq_true rfl)⟩ wr_7_217 wr_p_75 hmq674508 heq674508 rfl (show 0 + ((16 * (p674511.toInt - p674512.toInt)).toNat) ≤ ((16 * (p674511.toInt - p674512.toInt)).toNat + 1) by first | omega | decide) (show 0 + ((160 * (p674511.toInt - p674512.toInt)).toNat) ≤ ((160 * (p674511.toInt - p674512.toInt)).toNat + 7) by first | omega | decide) (Nat.le_of_ble_eq_true rfl) (fun r674537 w674538 dc674534 ds674535 hp674536 => ?_) (fun _ _ _ _ _ z => z.elim)
    obtain ⟨P674551, F674552, o674539, o674540, o674541, o674542, q674543, xt674550, rfl, rfl, hsb674553, hfr674554, he674555, he674556, hdc, hds, bo674539, bo674540, bo674541, x674544, x674545, x674546, x674547, x674548, ht674549⟩ := hp674536
    have hm674557 : q674508 ∈ P674551 := hsb674553 q674508 hmq674508
    have hm674558 : q674509 ∈ P674551 := hsb674553 q674509 hmq674509
    have hsb674559 : rSub P674506 P674551 := rSub_tr (rSub_rf (P := P674506)) hsb674553
    have hfr674560 : rFr [q674508] P674506 F674507 F674552 := rFr_call (rSub_rf (P := P674506)) (rFr_rf (W := []) (P := P674506) (F := F674507)) hfr674554 (fun b hb hn => ⟨nm_n, (nm_c (fun e => hn (e ▸ List.mem_cons_self)) nm_n)⟩)
    have bo674542 := gB_any o674542
    change G _ _ _ _ _ _ _ _ _ _ _
    refine G_widen (cs' := (16 * (o674539.toInt - p674512.toInt)).toNat) (sl' := (160 * (o674539.toInt - p674512.toInt)).toNat) (by omega) (by omega) ?_
    refine G_iload_n 0 dr_cX14_want__22 rfl ?_
    exact G_iretA dr_cX14_want__23 rfl (show (16 * (o674539.toInt - p674512.toInt)).toNat ≤ ((16 * (p674511.toInt - p674512.toInt)).toNat + 1) by omega) (show (160 * (o674539.toInt - p674512.toInt)).toNat ≤ ((160 * (p674511.toInt - p674512.toInt)).toNat + 7) by omega) ⟨P674551, F674552, o674539, o674540, o674541, o674542, q674543, xt674550, rfl, rfl, hsb674559, hfr674560, he674555, he674556, (by omega), (by omega), bo674539, bo674540, bo674541, (by omega), x674545, (by omega), x674547, x674548, (vP_eq x674530 (by omega)), (by omega), (fun R c1 => c1 xt674550 o674539 o674540 o674541 o674542 r674533 bo674539 bo674540 bo674541 ht674549)⟩
  · have r674561 : p674513.toInt ≠ p674510.toInt := gC_ne hc674532
    refine G_aload_n 0 dr_cX14_want__8 rfl ?_
    refine Gw_callV (As := []) (gV_ok D I) (cp_674107_Reader_no l hl0 D I P674506 F674507 q674508 q674509 p674511 p674512 p674513 p674514 p674515 p674516 qo674517 p674518 p674519 p674520 qo674521 qo674522 p674523 f674524 hmq674508 hmq674509 heq674508 heq674509 bp674511 bp674512 bp674513 bp674514 bp674516 bp674518 bp674519 bp674520 bp674523 bf674524) dr_cX14_want__9 ⟨wr_9_97, wr_1_32, wr_9_100, by decide, rfl, (Nat.le_of_ble_eq_true rfl), (Nat.le_of_ble_eq_true rfl)⟩ wr_9_99 wr_p_81 hmq674508 heq674508 rfl (show 0 + 1 ≤ ((16 * (p674511.toInt - p674512.toInt)).toNat + 1) by first | omega | decide) (show 0 + 7 ≤ ((160 * (p674511.toInt - p674512.toInt)).toNat + 7) by first | omega | decide) (Nat.le_of_ble_eq_true rfl) (fun r674565 w674566 dc674562 ds674563 hp674564 => ?_) (fun _ _ _ _ _ z => z.elim)
    obtain ⟨P674568, F674569, q674567, rfl, rfl, hsb674570, hfr674571, he674572, he674573, he674574, hm674575, hq674576, hdc, hds⟩ := hp674564
    have hm674577 : q674508 ∈ P674568 := hsb674570 q674508 hmq674508
    have hm674578 : q674509 ∈ P674568 := hsb674570 q674509 hmq674509
    have hq674579 : q674567 ∉ P674506 := fun z => hq674576 ((rSub_rf (P := P674506)) q674567 z)
    have hsb674580 : rSub P674506 P674568 := rSub_tr (rSub_rf (P := P674506)) hsb674570
    have hfr674581 : rFr [] P674506 F674507 F674569 := rFr_call (rSub_rf (P := P674506)) (rFr_rf (W := []) (P := P674506) (F := F674507)) hfr674571 (fun b hb hn => ⟨nm_n, nm_n⟩)
    have tp674582 : tP I P674568 F674569 p674513 qo674517 qo674522 qo674521 xt674525 := tP_new x674529 hsb674570 (fun b hb => hfr674571 b hb (fun z => by cases z)) (Or.inl rfl) (Or.inl rfl)
    change G _ _ _ _ _ _ _ (.ref q674567 :: _) _ _ _
    refine G_widen (cs' := 1) (sl' := 7) (by omega) (by omega) ?_
    exact Gp_athrow hm674575 he674574 rfl dr_cX14_want__12 (GT_outA rfl (show 1 ≤ ((16 * (p674511.toInt - p674512.toInt)).toNat + 1) by omega) (show 7 ≤ ((160 * (p674511.toInt - p674512.toInt)).toNat + 7) by omega) ⟨P674568, F674569, rfl, rfl, hsb674580, hfr674581, hm674575, hq674579, ⟨_, _, _, _, _, _, _, he674574, by omega⟩, (by omega), (by omega), (fun R c1 => c1 r674561)⟩)
/- tr_RReader_breaks: a.0...rulePlace, a.0...rule -/
def tr_RReader_breaks (a1 : Int32) (a2 : Int32) (a0_rulePlace : Int32) (a0_rule : Int32) (o1 : Int32) (o2 : Int32) : Prop := ∀ R : (Int32) → (Int32) → Prop,
  (a0_rulePlace.toInt < 0 → R a2 a1) →
  (0 ≤ a0_rulePlace.toInt → a2.toInt < a0_rulePlace.toInt → R a2 a1) →
  (0 ≤ a0_rulePlace.toInt → a0_rulePlace.toInt ≤ a2.toInt → a2.toInt ≠ a0_rulePlace.toInt → R a0_rulePlace a0_rule) →
  (0 ≤ a0_rulePlace.toInt → a0_rulePlace.toInt ≤ a2.toInt → a2.toInt = a0_rulePlace.toInt → a0_rule.toInt ≤ a1.toInt → R a0_rulePlace a0_rule) →
  (0 ≤ a0_rulePlace.toInt → a0_rulePlace.toInt ≤ a2.toInt → a2.toInt = a0_rulePlace.toInt → a1.toInt < a0_rule.toInt → R a2 a1) →
  R o1 o2
