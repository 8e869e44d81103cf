theorem dr_cE_Throwable_init4_0 : decode cE_Throwable_init4 0 = .ok (.aload_n 0, 1) := by decide +kernel
theorem dr_cE_Throwable_init4_1 : decode cE_Throwable_init4 1 = .ok (.invokespecial 1, 3) := by decide +kernel
theorem wr_4_220 : (Jvm.Cond.methodLink "java/lang/Throwable" (1 : Nat) ({ cls := "java/lang/Object", name := "<init>", desc := "()V" } : Jvm.MethodName)) ∈ gw := gw_4 220 rfl rfl
theorem dr_cE_Throwable_init4_4 : decode cE_Throwable_init4 4 = .ok (.aload_n 0, 1) := by decide +kernel
theorem dr_cE_Throwable_init4_5 : decode cE_Throwable_init4 5 = .ok (.aload_n 0, 1) := by decide +kernel
theorem dr_cE_Throwable_init4_6 : decode cE_Throwable_init4 6 = .ok (.putfield 7, 3) := by decide +kernel
theorem wr_5_15 : (Jvm.Cond.fieldLink "java/lang/Throwable" (7 : Nat) "java/lang/Throwable" "cause" "Ljava/lang/Throwable;") ∈ gw := gw_5 15 rfl rfl
theorem dr_cE_Throwable_init4_9 : decode cE_Throwable_init4 9 = .ok (.aload_n 0, 1) := by decide +kernel
theorem dr_cE_Throwable_init4_10 : decode cE_Throwable_init4 10 = .ok (.getstatic 13, 3) := by decide +kernel
theorem wr_4_221 : (Jvm.Cond.fieldLink "java/lang/Throwable" (13 : Nat) "java/lang/Throwable" "UNASSIGNED_STACK" "[Ljava/lang/StackTraceElement;") ∈ gw := gw_4 221 rfl rfl
theorem dr_cE_Throwable_init4_13 : decode cE_Throwable_init4 13 = .ok (.putfield 17, 3) := by decide +kernel
theorem wr_5_16 : (Jvm.Cond.fieldLink "java/lang/Throwable" (17 : Nat) "java/lang/Throwable" "stackTrace" "[Ljava/lang/StackTraceElement;") ∈ gw := gw_5 16 rfl rfl
theorem dr_cE_Throwable_init4_16 : decode cE_Throwable_init4 16 = .ok (.aload_n 0, 1) := by decide +kernel
theorem dr_cE_Throwable_init4_17 : decode cE_Throwable_init4 17 = .ok (.getstatic 20, 3) := by decide +kernel
theorem wr_4_223 : (Jvm.Cond.fieldLink "java/lang/Throwable" (20 : Nat) "java/lang/Throwable" "SUPPRESSED_SENTINEL" "Ljava/util/List;") ∈ gw := gw_4 223 rfl rfl
theorem dr_cE_Throwable_init4_20 : decode cE_Throwable_init4 20 = .ok (.putfield 24, 3) := by decide +kernel
theorem wr_5_17 : (Jvm.Cond.fieldLink "java/lang/Throwable" (24 : Nat) "java/lang/Throwable" "suppressedExceptions" "Ljava/util/List;") ∈ gw := gw_5 17 rfl rfl
theorem dr_cE_Throwable_init4_23 : decode cE_Throwable_init4 23 = .ok (.iload 4, 2) := by decide +kernel
theorem dr_cE_Throwable_init4_25 : decode cE_Throwable_init4 25 = .ok (.ifCond .eq 11, 3) := by decide +kernel
theorem dr_cE_Throwable_init4_36 : decode cE_Throwable_init4 36 = .ok (.aload_n 0, 1) := by decide +kernel
theorem dr_cE_Throwable_init4_37 : decode cE_Throwable_init4 37 = .ok (.aconst_null, 1) := by decide +kernel
theorem dr_cE_Throwable_init4_38 : decode cE_Throwable_init4 38 = .ok (.putfield 17, 3) := by decide +kernel
theorem dr_cE_Throwable_init4_41 : decode cE_Throwable_init4 41 = .ok (.aload_n 0, 1) := by decide +kernel
theorem dr_cE_Throwable_init4_42 : decode cE_Throwable_init4 42 = .ok (.aload_n 1, 1) := by decide +kernel
theorem dr_cE_Throwable_init4_43 : decode cE_Throwable_init4 43 = .ok (.putfield 31, 3) := by decide +kernel
theorem wr_5_14 : (Jvm.Cond.fieldLink "java/lang/Throwable" (31 : Nat) "java/lang/Throwable" "detailMessage" "Ljava/lang/String;") ∈ gw := gw_5 14 rfl rfl
theorem dr_cE_Throwable_init4_46 : decode cE_Throwable_init4 46 = .ok (.aload_n 0, 1) := by decide +kernel
theorem dr_cE_Throwable_init4_47 : decode cE_Throwable_init4 47 = .ok (.aload_n 2, 1) := by decide +kernel
theorem dr_cE_Throwable_init4_48 : decode cE_Throwable_init4 48 = .ok (.putfield 7, 3) := by decide +kernel
theorem dr_cE_Throwable_init4_51 : decode cE_Throwable_init4 51 = .ok (.iload_n 3, 1) := by decide +kernel
theorem dr_cE_Throwable_init4_52 : decode cE_Throwable_init4 52 = .ok (.ifCond .ne 8, 3) := by decide +kernel
theorem dr_cE_Throwable_init4_55 : decode cE_Throwable_init4 55 = .ok (.aload_n 0, 1) := by decide +kernel
theorem dr_cE_Throwable_init4_56 : decode cE_Throwable_init4 56 = .ok (.aconst_null, 1) := by decide +kernel
theorem dr_cE_Throwable_init4_57 : decode cE_Throwable_init4 57 = .ok (.putfield 24, 3) := by decide +kernel
theorem dr_cE_Throwable_init4_60 : decode cE_Throwable_init4 60 = .ok (.return_, 1) := by decide +kernel
theorem dr_cE_Exception_init4_0 : decode cE_Exception_init4 0 = .ok (.aload_n 0, 1) := by decide +kernel
theorem dr_cE_Exception_init4_1 : decode cE_Exception_init4 1 = .ok (.aload_n 1, 1) := by decide +kernel
theorem dr_cE_Exception_init4_2 : decode cE_Exception_init4 2 = .ok (.aload_n 2, 1) := by decide +kernel
theorem dr_cE_Exception_init4_3 : decode cE_Exception_init4 3 = .ok (.iload_n 3, 1) := by decide +kernel
theorem dr_cE_Exception_init4_4 : decode cE_Exception_init4 4 = .ok (.iload 4, 2) := by decide +kernel
theorem dr_cE_Exception_init4_6 : decode cE_Exception_init4 6 = .ok (.invokespecial 16, 3) := by decide +kernel
theorem wr_9_119 : (Jvm.Cond.methodLink "java/lang/Exception" (16 : Nat) ({ cls := "java/lang/Throwable", name := "<init>", desc := "(Ljava/lang/String;Ljava/lang/Throwable;ZZ)V" } : Jvm.MethodName)) ∈ gw := gw_9 119 rfl rfl
theorem wr_1_23 : (Jvm.Cond.initialized "java/lang/Throwable") ∈ gw := gw_1 23 rfl rfl
theorem wr_9_121 : (Jvm.Cond.code ({ cls := "java/lang/Throwable", name := "<init>", desc := "(Ljava/lang/String;Ljava/lang/Throwable;ZZ)V" } : Jvm.MethodName) prog_40_method_5_code (5 : Nat) (Option.none : Option Jvm.ClassFile.FieldType)) ∈ gw := gw_9 121 rfl rfl
theorem wr_9_120 : (Jvm.Cond.instanceMethod ({ cls := "java/lang/Throwable", name := "<init>", desc := "(Ljava/lang/String;Ljava/lang/Throwable;ZZ)V" } : Jvm.MethodName)) ∈ gw := gw_9 120 rfl rfl
theorem dr_cE_Exception_init4_9 : decode cE_Exception_init4 9 = .ok (.return_, 1) := by decide +kernel
theorem dr_cE_RuntimeException_init4_0 : decode cE_RuntimeException_init4 0 = .ok (.aload_n 0, 1) := by decide +kernel
theorem dr_cE_RuntimeException_init4_1 : decode cE_RuntimeException_init4 1 = .ok (.aload_n 1, 1) := by decide +kernel
theorem dr_cE_RuntimeException_init4_2 : decode cE_RuntimeException_init4 2 = .ok (.aload_n 2, 1) := by decide +kernel
theorem dr_cE_RuntimeException_init4_3 : decode cE_RuntimeException_init4 3 = .ok (.iload_n 3, 1) := by decide +kernel
theorem dr_cE_RuntimeException_init4_4 : decode cE_RuntimeException_init4 4 = .ok (.iload 4, 2) := by decide +kernel
theorem dr_cE_RuntimeException_init4_6 : decode cE_RuntimeException_init4 6 = .ok (.invokespecial 16, 3) := by decide +kernel
theorem wr_9_116 : (Jvm.Cond.methodLink "java/lang/RuntimeException" (16 : Nat) ({ cls := "java/lang/Exception", name := "<init>", desc := "(Ljava/lang/String;Ljava/lang/Throwable;ZZ)V" } : Jvm.MethodName)) ∈ gw := gw_9 116 rfl rfl
theorem wr_1_24 : (Jvm.Cond.initialized "java/lang/Exception") ∈ gw := gw_1 24 rfl rfl
theorem wr_9_118 : (Jvm.Cond.code ({ cls := "java/lang/Exception", name := "<init>", desc := "(Ljava/lang/String;Ljava/lang/Throwable;ZZ)V" } : Jvm.MethodName) prog_25_method_5_code (5 : Nat) (Option.none : Option Jvm.ClassFile.FieldType)) ∈ gw := gw_9 118 rfl rfl
theorem wr_9_117 : (Jvm.Cond.instanceMethod ({ cls := "java/lang/Exception", name := "<init>", desc := "(Ljava/lang/String;Ljava/lang/Throwable;ZZ)V" } : Jvm.MethodName)) ∈ gw := gw_9 117 rfl rfl
theorem dr_cE_RuntimeException_init4_9 : decode cE_RuntimeException_init4 9 = .ok (.return_, 1) := by decide +kernel
theorem dr_cX16_init_0 : decode cX16_init 0 = .ok (.aload_n 0, 1) := by decide +kernel
theorem dr_cX16_init_1 : decode cX16_init 1 = .ok (.aconst_null, 1) := by decide +kernel
theorem dr_cX16_init_2 : decode cX16_init 2 = .ok (.aconst_null, 1) := by decide +kernel
theorem dr_cX16_init_3 : decode cX16_init 3 = .ok (.iconst 0, 1) := by decide +kernel
theorem dr_cX16_init_4 : decode cX16_init 4 = .ok (.iconst 0, 1) := by decide +kernel
theorem dr_cX16_init_5 : decode cX16_init 5 = .ok (.invokespecial 1, 3) := by decide +kernel
theorem wr_9_113 : (Jvm.Cond.methodLink "SpillForgeModel$Wrong" (1 : Nat) ({ cls := "java/lang/RuntimeException", name := "<init>", desc := "(Ljava/lang/String;Ljava/lang/Throwable;ZZ)V" } : Jvm.MethodName)) ∈ gw := gw_9 113 rfl rfl
theorem wr_1_25 : (Jvm.Cond.initialized "java/lang/RuntimeException") ∈ gw := gw_1 25 rfl rfl
theorem wr_9_115 : (Jvm.Cond.code ({ cls := "java/lang/RuntimeException", name := "<init>", desc := "(Ljava/lang/String;Ljava/lang/Throwable;ZZ)V" } : Jvm.MethodName) prog_33_method_5_code (5 : Nat) (Option.none : Option Jvm.ClassFile.FieldType)) ∈ gw := gw_9 115 rfl rfl
theorem wr_9_114 : (Jvm.Cond.instanceMethod ({ cls := "java/lang/RuntimeException", name := "<init>", desc := "(Ljava/lang/String;Ljava/lang/Throwable;ZZ)V" } : Jvm.MethodName)) ∈ gw := gw_9 114 rfl rfl
theorem dr_cX16_init_8 : decode cX16_init 8 = .ok (.aload_n 0, 1) := by decide +kernel
theorem dr_cX16_init_9 : decode cX16_init 9 = .ok (.iload_n 1, 1) := by decide +kernel
theorem dr_cX16_init_10 : decode cX16_init 10 = .ok (.putfield 7, 3) := by decide +kernel
theorem wr_9_122 : (Jvm.Cond.fieldLink "SpillForgeModel$Wrong" (7 : Nat) "SpillForgeModel$Wrong" "place" "I") ∈ gw := gw_9 122 rfl rfl
theorem dr_cX16_init_13 : decode cX16_init 13 = .ok (.return_, 1) := by decide +kernel
theorem dr_cX14_no_0 : decode cX14_no 0 = .ok (.new 124, 3) := by decide +kernel
theorem wr_9_101 : (Jvm.Cond.classLink "SpillForgeModel$Reader" (124 : Nat) "SpillForgeModel$Wrong") ∈ gw := gw_9 101 rfl rfl
theorem wr_9_102 : (Jvm.Cond.instantiable "SpillForgeModel$Wrong" (7 : Nat)) ∈ gw := gw_9 102 rfl rfl
theorem wr_1_37 : (Jvm.Cond.initialized "SpillForgeModel$Wrong") ∈ gw := gw_1 37 rfl rfl
theorem dr_cX14_no_3 : decode cX14_no 3 = .ok (.dup, 1) := by decide +kernel
theorem dr_cX14_no_4 : decode cX14_no 4 = .ok (.aload_n 0, 1) := by decide +kernel
theorem dr_cX14_no_5 : decode cX14_no 5 = .ok (.getfield 47, 3) := by decide +kernel
theorem dr_cX14_no_8 : decode cX14_no 8 = .ok (.invokespecial 126, 3) := by decide +kernel
theorem wr_9_110 : (Jvm.Cond.methodLink "SpillForgeModel$Reader" (126 : Nat) ({ cls := "SpillForgeModel$Wrong", name := "<init>", desc := "(I)V" } : Jvm.MethodName)) ∈ gw := gw_9 110 rfl rfl
theorem wr_9_112 : (Jvm.Cond.code ({ cls := "SpillForgeModel$Wrong", name := "<init>", desc := "(I)V" } : Jvm.MethodName) prog_19_method_1_code (2 : Nat) (Option.none : Option Jvm.ClassFile.FieldType)) ∈ gw := gw_9 112 rfl rfl
theorem wr_9_111 : (Jvm.Cond.instanceMethod ({ cls := "SpillForgeModel$Wrong", name := "<init>", desc := "(I)V" } : Jvm.MethodName)) ∈ gw := gw_9 111 rfl rfl
theorem dr_cX14_no_11 : decode cX14_no 11 = .ok (.areturn, 1) := by decide +kernel
theorem dr_cX14_is_0 : decode cX14_is 0 = .ok (.aload_n 0, 1) := by decide +kernel
theorem dr_cX14_is_1 : decode cX14_is 1 = .ok (.getfield 38, 3) := by decide +kernel
theorem dr_cX14_is_4 : decode cX14_is 4 = .ok (.iconst 5, 1) := by decide +kernel
theorem dr_cX14_is_5 : decode cX14_is 5 = .ok (.if_icmp .eq 11, 3) := by decide +kernel
theorem dr_cX14_is_16 : decode cX14_is 16 = .ok (.aload_n 0, 1) := by decide +kernel
theorem dr_cX14_is_17 : decode cX14_is 17 = .ok (.getfield 11, 3) := by decide +kernel
theorem dr_cX14_is_20 : decode cX14_is 20 = .ok (.aload_n 1, 1) := by decide +kernel
theorem dr_cX14_is_21 : decode cX14_is 21 = .ok (.invokevirtual 128, 3) := by decide +kernel
theorem wr_9_145 : (Jvm.Cond.methodLink "SpillForgeModel$Reader" (128 : Nat) ({ cls := "java/lang/String", name := "equals", desc := "(Ljava/lang/Object;)Z" } : Jvm.MethodName)) ∈ gw := gw_9 145 rfl rfl
theorem wr_9_148 : (Jvm.Cond.code ({ cls := "java/lang/String", name := "equals", desc := "(Ljava/lang/Object;)Z" } : Jvm.MethodName) prog_34_method_66_code (3 : Nat) (Option.some Jvm.ClassFile.FieldType.boolean)) ∈ gw := gw_9 148 rfl rfl
theorem wr_9_146 : (Jvm.Cond.instanceMethod ({ cls := "java/lang/String", name := "equals", desc := "(Ljava/lang/Object;)Z" } : Jvm.MethodName)) ∈ gw := gw_9 146 rfl rfl
theorem wr_9_147 : (Jvm.Cond.selects "java/lang/String" ({ cls := "java/lang/String", name := "equals", desc := "(Ljava/lang/Object;)Z" } : Jvm.MethodName) ({ cls := "java/lang/String", name := "equals", desc := "(Ljava/lang/Object;)Z" } : Jvm.MethodName)) ∈ gw := gw_9 147 rfl rfl
theorem dr_cX14_is_24 : decode cX14_is 24 = .ok (.ifCond .eq 7, 3) := by decide +kernel
theorem dr_cX14_is_31 : decode cX14_is 31 = .ok (.iconst 0, 1) := by decide +kernel
theorem dr_cX14_is_32 : decode cX14_is 32 = .ok (.ireturn, 1) := by decide +kernel
theorem dr_cX14_is_27 : decode cX14_is 27 = .ok (.iconst 1, 1) := by decide +kernel
theorem dr_cX14_is_28 : decode cX14_is 28 = .ok (.goto 4, 3) := by decide +kernel
theorem dr_cX14_is_8 : decode cX14_is 8 = .ok (.aload_n 0, 1) := by decide +kernel
theorem dr_cX14_is_9 : decode cX14_is 9 = .ok (.getfield 38, 3) := by decide +kernel
theorem dr_cX14_is_12 : decode cX14_is 12 = .ok (.iconst 1, 1) := by decide +kernel
theorem dr_cX14_is_13 : decode cX14_is 13 = .ok (.if_icmp .ne 18, 3) := by decide +kernel
theorem dr_cX14_want_0 : decode cX14_want 0 = .ok (.aload_n 0, 1) := by decide +kernel
theorem dr_cX14_want_1 : decode cX14_want 1 = .ok (.aload_n 1, 1) := by decide +kernel
theorem dr_cX14_want_2 : decode cX14_want 2 = .ok (.invokevirtual 132, 3) := by decide +kernel
theorem wr_9_141 : (Jvm.Cond.methodLink "SpillForgeModel$Reader" (132 : Nat) ({ cls := "SpillForgeModel$Reader", name := "is", desc := "(Ljava/lang/String;)Z" } : Jvm.MethodName)) ∈ gw := gw_9 141 rfl rfl
theorem wr_9_144 : (Jvm.Cond.code ({ cls := "SpillForgeModel$Reader", name := "is", desc := "(Ljava/lang/String;)Z" } : Jvm.MethodName) prog_17_method_9_code (2 : Nat) (Option.some Jvm.ClassFile.FieldType.boolean)) ∈ gw := gw_9 144 rfl rfl
theorem wr_9_143 : (Jvm.Cond.instanceMethod ({ cls := "SpillForgeModel$Reader", name := "is", desc := "(Ljava/lang/String;)Z" } : Jvm.MethodName)) ∈ gw := gw_9 143 rfl rfl
theorem wr_p_84 : Cond.selects "SpillForgeModel$Reader" ⟨"SpillForgeModel$Reader", "is", "(Ljava/lang/String;)Z"⟩ ⟨"SpillForgeModel$Reader", "is", "(Ljava/lang/String;)Z"⟩ ∈ gw := gw_p _ 84 rfl rfl rfl
theorem dr_cX14_want_5 : decode cX14_want 5 = .ok (.ifCond .ne 8, 3) := by decide +kernel
theorem dr_cX14_want_13 : decode cX14_want 13 = .ok (.aload_n 0, 1) := by decide +kernel
theorem dr_cX14_want_14 : decode cX14_want 14 = .ok (.invokevirtual 35, 3) := by decide +kernel
theorem wr_7_215 : (Jvm.Cond.methodLink "SpillForgeModel$Reader" (35 : Nat) ({ cls := "SpillForgeModel$Reader", name := "next", desc := "()V" } : Jvm.MethodName)) ∈ gw := gw_7 215 rfl rfl
theorem wr_7_218 : (Jvm.Cond.code ({ cls := "SpillForgeModel$Reader", name := "next", desc := "()V" } : Jvm.MethodName) prog_17_method_4_code (3 : Nat) (Option.none : Option Jvm.ClassFile.FieldType)) ∈ gw := gw_7 218 rfl rfl
theorem wr_7_217 : (Jvm.Cond.instanceMethod ({ cls := "SpillForgeModel$Reader", name := "next", desc := "()V" } : Jvm.MethodName)) ∈ gw := gw_7 217 rfl rfl
theorem wr_p_75 : Cond.selects "SpillForgeModel$Reader" ⟨"SpillForgeModel$Reader", "next", "()V"⟩ ⟨"SpillForgeModel$Reader", "next", "()V"⟩ ∈ gw := gw_p _ 75 rfl rfl rfl
theorem dr_cX14_want_17 : decode cX14_want 17 = .ok (.return_, 1) := by decide +kernel
theorem dr_cX14_want_8 : decode cX14_want 8 = .ok (.aload_n 0, 1) := by decide +kernel
theorem dr_cX14_want_9 : decode cX14_want 9 = .ok (.invokevirtual 136, 3) := by decide +kernel
theorem wr_9_97 : (Jvm.Cond.methodLink "SpillForgeModel$Reader" (136 : Nat) ({ cls := "SpillForgeModel$Reader", name := "no", desc := "()LSpillForgeModel$Wrong;" } : Jvm.MethodName)) ∈ gw := gw_9 97 rfl rfl
theorem wr_9_100 : (Jvm.Cond.code ({ cls := "SpillForgeModel$Reader", name := "no", desc := "()LSpillForgeModel$Wrong;" } : Jvm.MethodName) prog_17_method_8_code (1 : Nat) (Option.some (Jvm.ClassFile.FieldType.object "SpillForgeModel$Wrong"))) ∈ gw := gw_9 100 rfl rfl
theorem wr_9_99 : (Jvm.Cond.instanceMethod ({ cls := "SpillForgeModel$Reader", name := "no", desc := "()LSpillForgeModel$Wrong;" } : Jvm.MethodName)) ∈ gw := gw_9 99 rfl rfl
theorem wr_p_81 : Cond.selects "SpillForgeModel$Reader" ⟨"SpillForgeModel$Reader", "no", "()LSpillForgeModel$Wrong;"⟩ ⟨"SpillForgeModel$Reader", "no", "()LSpillForgeModel$Wrong;"⟩ ∈ gw := gw_p _ 81 rfl rfl rfl
theorem dr_cX14_want_12 : decode cX14_want 12 = .ok (.athrow, 1) := by decide +kernel
theorem dr_cX14_want__0 : decode cX14_want_ 0 = .ok (.aload_n 0, 1) := by decide +kernel
theorem dr_cX14_want__1 : decode cX14_want_ 1 = .ok (.getfield 38, 3) := by decide +kernel
theorem dr_cX14_want__4 : decode cX14_want_ 4 = .ok (.iload_n 1, 1) := by decide +kernel
theorem dr_cX14_want__5 : decode cX14_want_ 5 = .ok (.if_icmp .eq 8, 3) := by decide +kernel
theorem dr_cX14_want__13 : decode cX14_want_ 13 = .ok (.aload_n 0, 1) := by decide +kernel
theorem dr_cX14_want__14 : decode cX14_want_ 14 = .ok (.getfield 80, 3) := by decide +kernel
theorem dr_cX14_want__17 : decode cX14_want_ 17 = .ok (.istore_n 2, 1) := by decide +kernel
theorem dr_cX14_want__18 : decode cX14_want_ 18 = .ok (.aload_n 0, 1) := by decide +kernel
theorem dr_cX14_want__19 : decode cX14_want_ 19 = .ok (.invokevirtual 35, 3) := by decide +kernel
theorem dr_cX14_want__22 : decode cX14_want_ 22 = .ok (.iload_n 2, 1) := by decide +kernel
theorem dr_cX14_want__23 : decode cX14_want_ 23 = .ok (.ireturn, 1) := by decide +kernel
theorem dr_cX14_want__8 : decode cX14_want_ 8 = .ok (.aload_n 0, 1) := by decide +kernel
theorem dr_cX14_want__9 : decode cX14_want_ 9 = .ok (.invokevirtual 136, 3) := by decide +kernel
theorem dr_cX14_want__12 : decode cX14_want_ 12 = .ok (.athrow, 1) := by decide +kernel
abbrev ky_671077_Throwable_init : gKey := (cE_Throwable_init4, 5, "java/lang/Throwable", none, [], "<init>", fun _ _ => True)
def pp_671077_Throwable_init (D : va_G) (I : FieldType → ClassId) (P671072 : List Nat) (F671073 : Nat → va_E) (q671074 : Nat) (p671075 : Int32) (p671076 : Int32) : Option Value → va_W → Nat → Nat → Prop := fun r w dc ds => ∃ (F671203 : Nat → va_E), r = none ∧ w = va_pl P671072 F671203 ∧ rFr [q671074] P671072 F671073 F671203 ∧ F671203 q671074 = .inr (21, [.null, .null, .null, .null, .null, .int p671075, .int p671076]) ∧ dc ≤ 0 ∧ ds ≤ 0
set_option maxRecDepth 100000 in
set_option maxHeartbeats 4000000 in
theorem cp_671077_Throwable_init (l : Launch) (hl0 : l.stackTraces = false) (D : va_G) (I : FieldType → ClassId) (P671072 : List Nat) (F671073 : Nat → va_E) (q671074 : Nat) (p671075 : Int32) (p671076 : Int32) (hmq671074 : q671074 ∈ P671072) (heq671074 : F671073 q671074 = .inr (21, [.null, .null, .null, .null, .null, .int p671075, .int p671076])) (bp671076 : gB p671076 0 8192) : CtA (gV D I) l yE_Throwable_init4 cE_Throwable_init4 5 none 1 12 0 0 [.ref q671074, .null, .null, .int 0, .int 0] (va_pl P671072 F671073) (pp_671077_Throwable_init D I P671072 F671073 q671074 p671075 p671076) gNA := by
  refine CtA_ofF hl0 (by decide +kernel) (Nat.le_of_ble_eq_true rfl) ?_
  have bp671075 := gB_any p671075
  refine G_aload_n 0 dr_cE_Throwable_init4_0 rfl ?_
  refine G_obj dr_cE_Throwable_init4_1 wr_4_220 wr_1_51 wr_1_52 (Nat.le_of_ble_eq_true rfl) (Nat.le_of_ble_eq_true rfl) ?_
  refine G_aload_n 0 dr_cE_Throwable_init4_4 rfl ?_
  refine G_aload_n 0 dr_cE_Throwable_init4_5 rfl ?_
  refine Gp_put 0 hmq671074 heq671074 dr_cE_Throwable_init4_6 (gk_X16 D I) (Nat.le_of_ble_eq_true rfl) wr_5_15 rfl rfl rfl (Nat.le_of_ble_eq_true rfl) (fun F671078 e671079 n671080 => ?_)
  have he671081 : F671078 q671074 = .inr (21, [.ref q671074, .null, .null, .null, .null, .int p671075, .int p671076]) := e671079
  have hfr671082 : rFr [q671074] P671072 F671073 F671078 := rFr_put (rFr_rf (W := []) (P := P671072) (F := F671073)) n671080
  refine G_aload_n 0 dr_cE_Throwable_init4_9 rfl ?_
  refine G_gets dr_cE_Throwable_init4_10 wr_4_221 gz_us (fun x671085 hx671084 => ?_)
  rcases hx671084 with rfl | ⟨t671083, rfl⟩
  · refine Gp_put 1 hmq671074 he671081 dr_cE_Throwable_init4_13 (gk_X16 D I) (Nat.le_of_ble_eq_true rfl) wr_5_16 rfl rfl rfl (Nat.le_of_ble_eq_true rfl) (fun F671086 e671087 n671088 => ?_)
    have he671089 : F671086 q671074 = .inr (21, [.ref q671074, .null, .null, .null, .null, .int p671075, .int p671076]) := e671087
    have hfr671090 : rFr [q671074] P671072 F671073 F671086 := rFr_put' List.mem_cons_self hfr671082 n671088
    refine G_aload_n 0 dr_cE_Throwable_init4_16 rfl ?_
    refine G_gets dr_cE_Throwable_init4_17 wr_4_223 gz_ss (fun x671093 hx671092 => ?_)
    rcases hx671092 with rfl | ⟨t671091, rfl⟩
    · refine Gp_put 2 hmq671074 he671089 dr_cE_Throwable_init4_20 (gk_X16 D I) (Nat.le_of_ble_eq_true rfl) wr_5_17 rfl rfl rfl (Nat.le_of_ble_eq_true rfl) (fun F671094 e671095 n671096 => ?_)
      have he671097 : F671094 q671074 = .inr (21, [.ref q671074, .null, .null, .null, .null, .int p671075, .int p671076]) := e671095
      have hfr671098 : rFr [q671074] P671072 F671073 F671094 := rFr_put' List.mem_cons_self hfr671090 n671096
      refine G_iload 4 dr_cE_Throwable_init4_23 rfl ?_
      refine G_if_eq 36 dr_cE_Throwable_init4_25 (by decide +kernel) (fun _ => ?_) (fun hc => absurd hc (by decide))
      refine G_aload_n 0 dr_cE_Throwable_init4_36 rfl ?_
      refine G_null dr_cE_Throwable_init4_37 ?_
      refine Gp_put 1 hmq671074 he671097 dr_cE_Throwable_init4_38 (gk_X16 D I) (Nat.le_of_ble_eq_true rfl) wr_5_16 rfl rfl rfl (Nat.le_of_ble_eq_true rfl) (fun F671099 e671100 n671101 => ?_)
      have he671102 : F671099 q671074 = .inr (21, [.ref q671074, .null, .null, .null, .null, .int p671075, .int p671076]) := e671100
      have hfr671103 : rFr [q671074] P671072 F671073 F671099 := rFr_put' List.mem_cons_self hfr671098 n671101
      refine G_aload_n 0 dr_cE_Throwable_init4_41 rfl ?_
      refine G_aload_nN 1 dr_cE_Throwable_init4_42 rfl ?_
      refine Gp_put 3 hmq671074 he671102 dr_cE_Throwable_init4_43 (gk_X16 D I) (Nat.le_of_ble_eq_true rfl) wr_5_14 rfl rfl rfl (Nat.le_of_ble_eq_true rfl) (fun F671104 e671105 n671106 => ?_)
      have he671107 : F671104 q671074 = .inr (21, [.ref q671074, .null, .null, .null, .null, .int p671075, .int p671076]) := e671105
      have hfr671108 : rFr [q671074] P671072 F671073 F671104 := rFr_put' List.mem_cons_self hfr671103 n671106
      refine G_aload_n 0 dr_cE_Throwable_init4_46 rfl ?_
      refine G_aload_nN 2 dr_cE_Throwable_init4_47 rfl ?_
      refine Gp_put 0 hmq671074 he671107 dr_cE_Throwable_init4_48 (gk_X16 D I) (Nat.le_of_ble_eq_true rfl) wr_5_15 rfl rfl rfl (Nat.le_of_ble_eq_true rfl) (fun F671109 e671110 n671111 => ?_)
      have he671112 : F671109 q671074 = .inr (21, [.null, .null, .null, .null, .null, .int p671075, .int p671076]) := e671110
      have hfr671113 : rFr [q671074] P671072 F671073 F671109 := rFr_put' List.mem_cons_self hfr671108 n671111
      refine G_iload_n 3 dr_cE_Throwable_init4_51 rfl ?_
      refine G_if_ne 60 dr_cE_Throwable_init4_52 (by decide +kernel) (fun hc => absurd hc (by decide)) (fun _ => ?_)
      refine G_aload_n 0 dr_cE_Throwable_init4_55 rfl ?_
      refine G_null dr_cE_Throwable_init4_56 ?_
      refine Gp_put 2 hmq671074 he671112 dr_cE_Throwable_init4_57 (gk_X16 D I) (Nat.le_of_ble_eq_true rfl) wr_5_17 rfl rfl rfl (Nat.le_of_ble_eq_true rfl) (fun F671114 e671115 n671116 => ?_)
      have he671117 : F671114 q671074 = .inr (21, [.null, .null, .null, .null, .null, .int p671075, .int p671076]) := e671115
      have hfr671118 : rFr [q671074] P671072 F671073 F671114 := rFr_put' List.mem_cons_self hfr671113 n671116
      exact G_vretA dr_cE_Throwable_init4_60 rfl (Nat.le_of_ble_eq_true rfl) (Nat.le_of_ble_eq_true rfl) ⟨F671114, rfl, rfl, hfr671118, he671117, (Nat.le_of_ble_eq_true rfl), (Nat.le_of_ble_eq_true rfl)⟩
    · refine Gp_put 2 hmq671074 he671089 dr_cE_Throwable_init4_20 (gk_X16 D I) (Nat.le_of_ble_eq_true rfl) wr_5_17 rfl rfl rfl (Nat.le_of_ble_eq_true rfl) (fun F671119 e671120 n671121 => ?_)
      have he671122 : F671119 q671074 = .inr (21, [.ref q671074, .null, .ref t671091, .null, .null, .int p671075, .int p671076]) := e671120
      have hfr671123 : rFr [q671074] P671072 F671073 F671119 := rFr_put' List.mem_cons_self hfr671090 n671121
      refine G_iload 4 dr_cE_Throwable_init4_23 rfl ?_
      refine G_if_eq 36 dr_cE_Throwable_init4_25 (by decide +kernel) (fun _ => ?_) (fun hc => absurd hc (by decide))
      refine G_aload_n 0 dr_cE_Throwable_init4_36 rfl ?_
      refine G_null dr_cE_Throwable_init4_37 ?_
      refine Gp_put 1 hmq671074 he671122 dr_cE_Throwable_init4_38 (gk_X16 D I) (Nat.le_of_ble_eq_true rfl) wr_5_16 rfl rfl rfl (Nat.le_of_ble_eq_true rfl) (fun F671124 e671125 n671126 => ?_)
      have he671127 : F671124 q671074 = .inr (21, [.ref q671074, .null, .ref t671091, .null, .null, .int p671075, .int p671076]) := e671125
      have hfr671128 : rFr [q671074] P671072 F671073 F671124 := rFr_put' List.mem_cons_self hfr671123 n671126
      refine G_aload_n 0 dr_cE_Throwable_init4_41 rfl ?_
      refine G_aload_nN 1 dr_cE_Throwable_init4_42 rfl ?_
      refine Gp_put 3 hmq671074 he671127 dr_cE_Throwable_init4_43 (gk_X16 D I) (Nat.le_of_ble_eq_true rfl) wr_5_14 rfl rfl rfl (Nat.le_of_ble_eq_true rfl) (fun F671129 e671130 n671131 => ?_)
      have he671132 : F671129 q671074 = .inr (21, [.ref q671074, .null, .ref t671091, .null, .null, .int p671075, .int p671076]) := e671130
      have hfr671133 : rFr [q671074] P671072 F671073 F671129 := rFr_put' List.mem_cons_self hfr671128 n671131
      refine G_aload_n 0 dr_cE_Throwable_init4_46 rfl ?_
      refine G_aload_nN 2 dr_cE_Throwable_init4_47 rfl ?_
      refine Gp_put 0 hmq671074 he671132 dr_cE_Throwable_init4_48 (gk_X16 D I) (Nat.le_of_ble_eq_true rfl) wr_5_15 rfl rfl rfl (Nat.le_of_ble_eq_true rfl) (fun F671134 e671135 n671136 => ?_)
      have he671137 : F671134 q671074 = .inr (21, [.null, .null, .ref t671091, .null, .null, .int p671075, .int p671076]) := e671135
      have hfr671138 : rFr [q671074] P671072 F671073 F671134 := rFr_put' List.mem_cons_self hfr671133 n671136
      refine G_iload_n 3 dr_cE_Throwable_init4_51 rfl ?_
      refine G_if_ne 60 dr_cE_Throwable_init4_52 (by decide +kernel) (fun hc => absurd hc (by decide)) (fun _ => ?_)
      refine G_aload_n 0 dr_cE_Throwable_init4_55 rfl ?_
      refine G_null dr_cE_Throwable_init4_56 ?_
      refine Gp_put 2 hmq671074 he671137 dr_cE_Throwable_init4_57 (gk_X16 D I) (Nat.le_of_ble_eq_true rfl) wr_5_17 rfl rfl rfl (Nat.le_of_ble_eq_true rfl) (fun F671139 e671140 n671141 => ?_)
      have he671142 : F671139 q671074 = .inr (21, [.null, .null, .null, .null, .null, .int p671075, .int p671076]) := e671140
      have hfr671143 : rFr [q671074] P671072 F671073 F671139 := rFr_put' List.mem_cons_self hfr671138 n671141
      exact G_vretA dr_cE_Throwable_init4_60 rfl (Nat.le_of_ble_eq_true rfl) (Nat.le_of_ble_eq_true rfl) ⟨F671139, rfl, rfl, hfr671143, he671142, (Nat.le_of_ble_eq_true rfl), (Nat.le_of_ble_eq_true rfl)⟩
  · refine Gp_put 1 hmq671074 he671081 dr_cE_Throwable_init4_13 (gk_X16 D I) (Nat.le_of_ble_eq_true rfl) wr_5_16 rfl rfl rfl (Nat.le_of_ble_eq_true rfl) (fun F671144 e671145 n671146 => ?_)
    have he671147 : F671144 q671074 = .inr (21, [.ref q671074, .ref t671083, .null, .null, .null, .int p671075, .int p671076]) := e671145
    have hfr671148 : rFr [q671074] P671072 F671073 F671144 := rFr_put' List.mem_cons_self hfr671082 n671146
    refine G_aload_n 0 dr_cE_Throwable_init4_16 rfl ?_
    refine G_gets dr_cE_Throwable_init4_17 wr_4_223 gz_ss (fun x671151 hx671150 => ?_)
    rcases hx671150 with rfl | ⟨t671149, rfl⟩
    · refine Gp_put 2 hmq671074 he671147 dr_cE_Throwable_init4_20 (gk_X16 D I) (Nat.le_of_ble_eq_true rfl) wr_5_17 rfl rfl rfl (Nat.le_of_ble_eq_true rfl) (fun F671152 e671153 n671154 => ?_)
      have he671155 : F671152 q671074 = .inr (21, [.ref q671074, .ref t671083, .null, .null, .null, .int p671075, .int p671076]) := e671153
      have hfr671156 : rFr [q671074] P671072 F671073 F671152 := rFr_put' List.mem_cons_self hfr671148 n671154
      refine G_iload 4 dr_cE_Throwable_init4_23 rfl ?_
      refine G_if_eq 36 dr_cE_Throwable_init4_25 (by decide +kernel) (fun _ => ?_) (fun hc => absurd hc (by decide))
      refine G_aload_n 0 dr_cE_Throwable_init4_36 rfl ?_
      refine G_null dr_cE_Throwable_init4_37 ?_
      refine Gp_put 1 hmq671074 he671155 dr_cE_Throwable_init4_38 (gk_X16 D I) (Nat.le_of_ble_eq_true rfl) wr_5_16 rfl rfl rfl (Nat.le_of_ble_eq_true rfl) (fun F671157 e671158 n671159 => ?_)
      have he671160 : F671157 q671074 = .inr (21, [.ref q671074, .null, .null, .null, .null, .int p671075, .int p671076]) := e671158
      have hfr671161 : rFr [q671074] P671072 F671073 F671157 := rFr_put' List.mem_cons_self hfr671156 n671159
      refine G_aload_n 0 dr_cE_Throwable_init4_41 rfl ?_
      refine G_aload_nN 1 dr_cE_Throwable_init4_42 rfl ?_
      refine Gp_put 3 hmq671074 he671160 dr_cE_Throwable_init4_43 (gk_X16 D I) (Nat.le_of_ble_eq_true rfl) wr_5_14 rfl rfl rfl (Nat.le_of_ble_eq_true rfl) (fun F671162 e671163 n671164 => ?_)
      have he671165 : F671162 q671074 = .inr (21, [.ref q671074, .null, .null, .null, .null, .int p671075, .int p671076]) := e671163
      have hfr671166 : rFr [q671074] P671072 F671073 F671162 := rFr_put' List.mem_cons_self hfr671161 n671164
      refine G_aload_n 0 dr_cE_Throwable_init4_46 rfl ?_
      refine G_aload_nN 2 dr_cE_Throwable_init4_47 rfl ?_
      refine Gp_put 0 hmq671074 he671165 dr_cE_Throwable_init4_48 (gk_X16 D I) (Nat.le_of_ble_eq_true rfl) wr_5_15 rfl rfl rfl (Nat.le_of_ble_eq_true rfl) (fun F671167 e671168 n671169 => ?_)
      have he671170 : F671167 q671074 = .inr (21, [.null, .null, .null, .null, .null, .int p671075, .int p671076]) := e671168
      have hfr671171 : rFr [q671074] P671072 F671073 F671167 := rFr_put' List.mem_cons_self hfr671166 n671169
      refine G_iload_n 3 dr_cE_Throwable_init4_51 rfl ?_
      refine G_if_ne 60 dr_cE_Throwable_init4_52 (by decide +kernel) (fun hc => absurd hc (by decide)) (fun _ => ?_)
      refine G_aload_n 0 dr_cE_Throwable_init4_55 rfl ?_
      refine G_null dr_cE_Throwable_init4_56 ?_
      refine Gp_put 2 hmq671074 he671170 dr_cE_Throwable_init4_57 (gk_X16 D I) (Nat.le_of_ble_eq_true rfl) wr_5_17 rfl rfl rfl (Nat.le_of_ble_eq_true rfl) (fun F671172 e671173 n671174 => ?_)
      have he671175 : F671172 q671074 = .inr (21, [.null, .null, .null, .null, .null, .int p671075, .int p671076]) := e671173
      have hfr671176 : rFr [q671074] P671072 F671073 F671172 := rFr_put' List.mem_cons_self hfr671171 n671174
      exact G_vretA dr_cE_Throwable_init4_60 rfl (Nat.le_of_ble_eq_true rfl) (Nat.le_of_ble_eq_true rfl) ⟨F671172, rfl, rfl, hfr671176, he671175, (Nat.le_of_ble_eq_true rfl), (Nat.le_of_ble_eq_true rfl)⟩
    · refine Gp_put 2 hmq671074 he671147 dr_cE_Throwable_init4_20 (gk_X16 D I) (Nat.le_of_ble_eq_true rfl) wr_5_17 rfl rfl rfl (Nat.le_of_ble_eq_true rfl) (fun F671177 e671178 n671179 => ?_)
      have he671180 : F671177 q671074 = .inr (21, [.ref q671074, .ref t671083, .ref t671149, .null, .null, .int p671075, .int p671076]) := e671178
      have hfr671181 : rFr [q671074] P671072 F671073 F671177 := rFr_put' List.mem_cons_self hfr671148 n671179
      refine G_iload 4 dr_cE_Throwable_init4_23 rfl ?_
      refine G_if_eq 36 dr_cE_Throwable_init4_25 (by decide +kernel) (fun _ => ?_) (fun hc => absurd hc (by decide))
      refine G_aload_n 0 dr_cE_Throwable_init4_36 rfl ?_
      refine G_null dr_cE_Throwable_init4_37 ?_
      refine Gp_put 1 hmq671074 he671180 dr_cE_Throwable_init4_38 (gk_X16 D I) (Nat.le_of_ble_eq_true rfl) wr_5_16 rfl rfl rfl (Nat.le_of_ble_eq_true rfl) (fun F671182 e671183 n671184 => ?_)
      have he671185 : F671182 q671074 = .inr (21, [.ref q671074, .null, .ref t671149, .null, .null, .int p671075, .int p671076]) := e671183
      have hfr671186 : rFr [q671074] P671072 F671073 F671182 := rFr_put' List.mem_cons_self hfr671181 n671184
      refine G_aload_n 0 dr_cE_Throwable_init4_41 rfl ?_
      refine G_aload_nN 1 dr_cE_Throwable_init4_42 rfl ?_
      refine Gp_put 3 hmq671074 he671185 dr_cE_Throwable_init4_43 (gk_X16 D I) (Nat.le_of_ble_eq_true rfl) wr_5_14 rfl rfl rfl (Nat.le_of_ble_eq_true rfl) (fun F671187 e671188 n671189 => ?_)
      have he671190 : F671187 q671074 = .inr (21, [.ref q671074, .null, .ref t671149, .null, .null, .int p671075, .int p671076]) := e671188
      have hfr671191 : rFr [q671074] P671072 F671073 F671187 := rFr_put' List.mem_cons_self hfr671186 n671189
      refine G_aload_n 0 dr_cE_Throwable_init4_46 rfl ?_
      refine G_aload_nN 2 dr_cE_Throwable_init4_47 rfl ?_
      refine Gp_put 0 hmq671074 he671190 dr_cE_Throwable_init4_48 (gk_X16 D I) (Nat.le_of_ble_eq_true rfl) wr_5_15 rfl rfl rfl (Nat.le_of_ble_eq_true rfl) (fun F671192 e671193 n671194 => ?_)
      have he671195 : F671192 q671074 = .inr (21, [.null, .null, .ref t671149, .null, .null, .int p671075, .int p671076]) := e671193
      have hfr671196 : rFr [q671074] P671072 F671073 F671192 := rFr_put' List.mem_cons_self hfr671191 n671194
      refine G_iload_n 3 dr_cE_Throwable_init4_51 rfl ?_
      refine G_if_ne 60 dr_cE_Throwable_init4_52 (by decide +kernel) (fun hc => absurd hc (by decide)) (fun _ => ?_)
      refine G_aload_n 0 dr_cE_Throwable_init4_55 rfl ?_
      refine G_null dr_cE_Throwable_init4_56 ?_
      refine Gp_put 2 hmq671074 he671195 dr_cE_Throwable_init4_57 (gk_X16 D I) (Nat.le_of_ble_eq_true rfl) wr_5_17 rfl rfl rfl (Nat.le_of_ble_eq_true rfl) (fun F671197 e671198 n671199 => ?_)
      have he671200 : F671197 q671074 = .inr (21, [.null, .null, .null, .null, .null, .int p671075, .int p671076]) := e671198
      have hfr671201 : rFr [q671074] P671072 F671073 F671197 := rFr_put' List.mem_cons_self hfr671196 n671199
      exact G_vretA dr_cE_Throwable_init4_60 rfl (Nat.le_of_ble_eq_true rfl) (Nat.le_of_ble_eq_true rfl) ⟨F671197, rfl, rfl, hfr671201, he671200, (Nat.le_of_ble_eq_true rfl), (Nat.le_of_ble_eq_true rfl)⟩
abbrev ky_671071_Exception_init : gKey := (cE_Exception_init4, 5, "java/lang/Exception", none, [], "<init>", fun _ _ => True)
def pp_671071_Exception_init (D : va_G) (I : FieldType → ClassId) (P671066 : List Nat) (F671067 : Nat → va_E) (q671068 : Nat) (p671069 : Int32) (p671070 : Int32) : Option Value → va_W → Nat → Nat → Prop := fun r w dc ds => ∃ (F671215 : Nat → va_E), r = none ∧ w = va_pl P671066 F671215 ∧ rFr [q671068] P671066 F671067 F671215 ∧ F671215 q671068 = .inr (21, [.null, .null, .null, .null, .null, .int p671069, .int p671070]) ∧ dc ≤ 0 ∧ ds ≤ 0
set_option maxRecDepth 100000 in
set_option maxHeartbeats 4000000 in
theorem cp_671071_Exception_init (l : Launch) (hl0 : l.stackTraces = false) (D : va_G) (I : FieldType → ClassId) (P671066 : List Nat) (F671067 : Nat → va_E) (q671068 : Nat) (p671069 : Int32) (p671070 : Int32) (hmq671068 : q671068 ∈ P671066) (heq671068 : F671067 q671068 = .inr (21, [.null, .null, .null, .null, .null, .int p671069, .int p671070])) (bp671070 : gB p671070 0 8192) : CtA (gV D I) l yE_Exception_init4 cE_Exception_init4 5 none 2 36 0 0 [.ref q671068, .null, .null, .int 0, .int 0] (va_pl P671066 F671067) (pp_671071_Exception_init D I P671066 F671067 q671068 p671069 p671070) gNA := by
  refine CtA_ofF hl0 (by decide +kernel) (Nat.le_of_ble_eq_true rfl) ?_
  have bp671069 := gB_any p671069
  refine G_aload_n 0 dr_cE_Exception_init4_0 rfl ?_
  refine G_aload_nN 1 dr_cE_Exception_init4_1 rfl ?_
  refine G_aload_nN 2 dr_cE_Exception_init4_2 rfl ?_
  refine G_iload_n 3 dr_cE_Exception_init4_3 rfl ?_
  refine G_iload 4 dr_cE_Exception_init4_4 rfl ?_
  refine Gw_callI (As := [.null, .null, .int 0, .int 0]) (gV_ok D I) (cp_671077_Throwable_init l hl0 D I P671066 F671067 q671068 p671069 p671070 hmq671068 heq671068 bp671070) dr_cE_Exception_init4_6 ⟨wr_9_119, wr_1_23, wr_9_121, by decide, rfl, (Nat.le_of_ble_eq_true rfl), (Nat.le_of_ble_eq_true rfl)⟩ wr_9_120 rfl (show 0 + 0 ≤ 0 by first | omega | decide) (show 0 + 0 ≤ 0 by first | omega | decide) (Nat.le_of_ble_eq_true rfl) (fun r671207 w671208 dc671204 ds671205 hp671206 => ?_)
  obtain ⟨F671209, rfl, rfl, hfr671211, he671212, hdc, hds⟩ := hp671206
  have hfr671213 : rFr [q671068] P671066 F671067 F671209 := rFr_call (rSub_rf (P := P671066)) (rFr_rf (W := []) (P := P671066) (F := F671067)) hfr671211 (fun b hb hn => ⟨nm_n, (nm_c (fun e => hn (e ▸ List.mem_cons_self)) nm_n)⟩)
  change G _ _ _ _ _ _ _ _ _ _ _
  refine G_widen (cs' := 0) (sl' := 0) (by omega) (by omega) ?_
  exact G_vretA dr_cE_Exception_init4_9 rfl (Nat.le_of_ble_eq_true rfl) (Nat.le_of_ble_eq_true rfl) ⟨F671209, rfl, rfl, hfr671213, he671212, (Nat.le_of_ble_eq_true rfl), (Nat.le_of_ble_eq_true rfl)⟩
abbrev ky_671065_RuntimeException_init : gKey := (cE_RuntimeException_init4, 5, "java/lang/RuntimeException", none, [], "<init>", fun _ _ => True)
def pp_671065_RuntimeException_init (D : va_G) (I : FieldType → ClassId) (P671060 : List Nat) (F671061 : Nat → va_E) (q671062 : Nat) (p671063 : Int32) (p671064 : Int32) : Option Value → va_W → Nat → Nat → Prop := fun r w dc ds => ∃ (F671227 : Nat → va_E), r = none ∧ w = va_pl P671060 F671227 ∧ rFr [q671062] P671060 F671061 F671227 ∧ F671227 q671062 = .inr (21, [.null, .null, .null, .null, .null, .int p671063, .int p671064]) ∧ dc ≤ 0 ∧ ds ≤ 0
set_option maxRecDepth 100000 in
set_option maxHeartbeats 4000000 in
theorem cp_671065_RuntimeException_init (l : Launch) (hl0 : l.stackTraces = false) (D : va_G) (I : FieldType → ClassId) (P671060 : List Nat) (F671061 : Nat → va_E) (q671062 : Nat) (p671063 : Int32) (p671064 : Int32) (hmq671062 : q671062 ∈ P671060) (heq671062 : F671061 q671062 = .inr (21, [.null, .null, .null, .null, .null, .int p671063, .int p671064])) (bp671064 : gB p671064 0 8192) : CtA (gV D I) l yE_RuntimeException_init4 cE_RuntimeException_init4 5 none 3 60 0 0 [.ref q671062, .null, .null, .int 0, .int 0] (va_pl P671060 F671061) (pp_671065_RuntimeException_init D I P671060 F671061 q671062 p671063 p671064) gNA := by
  refine CtA_ofF hl0 (by decide +kernel) (Nat.le_of_ble_eq_true rfl) ?_
  have bp671063 := gB_any p671063
  refine G_aload_n 0 dr_cE_RuntimeException_init4_0 rfl ?_
  refine G_aload_nN 1 dr_cE_RuntimeException_init4_1 rfl ?_
  refine G_aload_nN 2 dr_cE_RuntimeException_init4_2 rfl ?_
  refine G_iload_n 3 dr_cE_RuntimeException_init4_3 rfl ?_
  refine G_iload 4 dr_cE_RuntimeException_init4_4 rfl ?_
  refine Gw_callI (As := [.null, .null, .int 0, .int 0]) (gV_ok D I) (cp_671071_Exception_init l hl0 D I P671060 F671061 q671062 p671063 p671064 hmq671062 heq671062 bp671064) dr_cE_RuntimeException_init4_6 ⟨wr_9_116, wr_1_24, wr_9_118, by decide, rfl, (Nat.le_of_ble_eq_true rfl), (Nat.le_of_ble_eq_true rfl)⟩ wr_9_117 rfl (show 0 + 0 ≤ 0 by first | omega | decide) (show 0 + 0 ≤ 0 by first | omega | decide) (Nat.le_of_ble_eq_true rfl) (fun r671219 w671220 dc671216 ds671217 hp671218 => ?_)
  obtain ⟨F671221, rfl, rfl, hfr671223, he671224, hdc, hds⟩ := hp671218
  have hfr671225 : rFr [q671062] P671060 F671061 F671221 := rFr_call (rSub_rf (P := P671060)) (rFr_rf (W := []) (P := P671060) (F := F671061)) hfr671223 (fun b hb hn => ⟨nm_n, (nm_c (fun e => hn (e ▸ List.mem_cons_self)) nm_n)⟩)
  change G _ _ _ _ _ _ _ _ _ _ _
  refine G_widen (cs' := 0) (sl' := 0) (by omega) (by omega) ?_
  exact G_vretA dr_cE_RuntimeException_init4_9 rfl (Nat.le_of_ble_eq_true rfl) (Nat.le_of_ble_eq_true rfl) ⟨F671221, rfl, rfl, hfr671225, he671224, (Nat.le_of_ble_eq_true rfl), (Nat.le_of_ble_eq_true rfl)⟩
abbrev ky_671059_Wrong_init : gKey := (cX16_init, 2, "SpillForgeModel$Wrong", none, [], "<init>", fun _ _ => True)
def pp_671059_Wrong_init (D : va_G) (I : FieldType → ClassId) (P671053 : List Nat) (F671054 : Nat → va_E) (q671055 : Nat) (p671056 : Int32) (p671057 : Int32) (p671058 : Int32) : Option Value → va_W → Nat → Nat → Prop := fun r w dc ds => ∃ (F671244 : Nat → va_E), r = none ∧ w = va_pl P671053 F671244 ∧ rFr [q671055] P671053 F671054 F671244 ∧ F671244 q671055 = .inr (21, [.null, .null, .null, .null, .null, .int p671057, .int p671056]) ∧ dc ≤ 0 ∧ ds ≤ 0
set_option maxRecDepth 100000 in
set_option maxHeartbeats 4000000 in
theorem cp_671059_Wrong_init (l : Launch) (hl0 : l.stackTraces = false) (D : va_G) (I : FieldType → ClassId) (P671053 : List Nat) (F671054 : Nat → va_E) (q671055 : Nat) (p671056 : Int32) (p671057 : Int32) (p671058 : Int32) (hmq671055 : q671055 ∈ P671053) (heq671055 : F671054 q671055 = .inr (21, [.null, .null, .null, .null, .null, .int p671057, .int p671058])) (bp671058 : gB p671058 0 8192) : CtA (gV D I) l yX16_init cX16_init 2 none 4 84 0 0 [.ref q671055, .int p671056] (va_pl P671053 F671054) (pp_671059_Wrong_init D I P671053 F671054 q671055 p671056 p671057 p671058) gNA := by
  refine CtA_of hl0 (by decide) (Nat.le_of_ble_eq_true rfl) ?_
  have bp671056 := gB_any p671056
  have bp671057 := gB_any p671057
  refine G_aload_n 0 dr_cX16_init_0 rfl ?_
  refine G_null dr_cX16_init_1 ?_
  refine G_null dr_cX16_init_2 ?_
  refine G_iconst 0 dr_cX16_init_3 (by decide +kernel) ?_
  refine G_iconst 0 dr_cX16_init_4 (by decide +kernel) ?_
  refine Gw_callI (As := [.null, .null, .int 0, .int 0]) (gV_ok D I) (cp_671065_RuntimeException_init l hl0 D I P671053 F671054 q671055 p671057 p671058 hmq671055 heq671055 bp671058) dr_cX16_init_5 ⟨wr_9_113, wr_1_25, wr_9_115, by decide, rfl, (Nat.le_of_ble_eq_true rfl), (Nat.le_of_ble_eq_true rfl)⟩ wr_9_114 rfl (show 0 + 0 ≤ 0 by first | omega | decide) (show 0 + 0 ≤ 0 by first | omega | decide) (Nat.le_of_ble_eq_true rfl) (fun r671231 w671232 dc671228 ds671229 hp671230 => ?_)
  obtain ⟨F671233, rfl, rfl, hfr671235, he671236, hdc, hds⟩ := hp671230
  have hfr671237 : rFr [q671055] P671053 F671054 F671233 := rFr_call (rSub_rf (P := P671053)) (rFr_rf (W := []) (P := P671053) (F := F671054)) hfr671235 (fun b hb hn => ⟨nm_n, (nm_c (fun e => hn (e ▸ List.mem_cons_self)) nm_n)⟩)
  change G _ _ _ _ _ _ _ _ _ _ _
  refine G_widen (cs' := 0) (sl' := 0) (by omega) (by omega) ?_
  refine G_aload_n 0 dr_cX16_init_8 rfl ?_
  refine G_iload_n 1 dr_cX16_init_9 rfl ?_
  refine Gp_putF 6 hmq671055 he671236 dr_cX16_init_10 (gk_X16 D I) (Nat.le_of_ble_eq_true rfl) wr_9_122 rfl rfl rfl rfl rfl (Nat.le_of_ble_eq_true rfl) (fun F671238 e671239 n671240 => ?_)
  have he671241 : F671238 q671055 = .inr (21, [.null, .null, .null, .null, .null, .int p671057, .int p671056]) := e671239
  have hfr671242 : rFr [q671055] P671053 F671054 F671238 := rFr_put' List.mem_cons_self hfr671237 n671240
  exact G_vretA dr_cX16_init_13 rfl (Nat.le_of_ble_eq_true rfl) (Nat.le_of_ble_eq_true rfl) ⟨F671238, rfl, rfl, hfr671242, he671241, (Nat.le_of_ble_eq_true rfl), (Nat.le_of_ble_eq_true rfl)⟩
abbrev ky_671036_Reader_no : gKey := (cX14_no, 1, "SpillForgeModel$Reader", (some (FieldType.object "SpillForgeModel$Wrong")), [], "no", fun _ _ => True)
def pp_671036_Reader_no (D : va_G) (I : FieldType → ClassId) (P671018 : List Nat) (F671019 : Nat → va_E) (q671020 : Nat) (q671021 : Nat) (p671022 : Int32) (p671023 : Int32) (p671024 : Int32) (p671025 : Int32) (p671026 : Int32) (p671027 : Int32) (qo671028 : Nat) (p671029 : Int32) (p671030 : Int32) (p671031 : Int32) (qo671032 : Nat) (qo671033 : Nat) (p671034 : Int32) (f671035 : Nat → Int32) : Option Value → va_W → Nat → Nat → Prop := fun r w dc ds => ∃ (P671258 : List Nat) (F671259 : Nat → va_E) (q671257 : Nat), r = some (.ref q671257) ∧ w = va_pl P671258 F671259 ∧ rSub P671018 P671258 ∧ rFr [] P671018 F671019 F671259 ∧ F671259 q671020 = .inr (19, [.ref q671021, .int p671022, .int p671023, .int p671024, .int p671025, .int p671026, .int p671027, .ref qo671028, .int p671029, .int p671030, .int p671031, .ref qo671032, .ref qo671033, .int p671034]) ∧ F671259 q671021 = .inl (I .byte, 8192, .inl f671035) ∧ F671259 q671257 = .inr (21, [.null, .null, .null, .null, .null, .int 0, .int p671025]) ∧ q671257 ∈ P671258 ∧ q671257 ∉ P671018 ∧ dc ≤ 1 ∧ ds ≤ 7
set_option maxRecDepth 100000 in
set_option maxHeartbeats 4000000 in
theorem cp_671036_Reader_no (l : Launch) (hl0 : l.stackTraces = false) (D : va_G) (I : FieldType → ClassId) (P671018 : List Nat) (F671019 : Nat → va_E) (q671020 : Nat) (q671021 : Nat) (p671022 : Int32) (p671023 : Int32) (p671024 : Int32) (p671025 : Int32) (p671026 : Int32) (p671027 : Int32) (qo671028 : Nat) (p671029 : Int32) (p671030 : Int32) (p671031 : Int32) (qo671032 : Nat) (qo671033 : Nat) (p671034 : Int32) (f671035 : Nat → Int32) (hmq671020 : q671020 ∈ P671018) (hmq671021 : q671021 ∈ P671018) (heq671020 : F671019 q671020 = .inr (19, [.ref q671021, .int p671022, .int p671023, .int p671024, .int p671025, .int p671026, .int p671027, .ref qo671028, .int p671029, .int p671030, .int p671031, .ref qo671032, .ref qo671033, .int p671034])) (heq671021 : F671019 q671021 = .inl (I .byte, 8192, .inl f671035)) (bp671022 : gB p671022 0 8192) (bp671023 : gB p671023 0 8192) (bp671024 : gB p671024 0 6) (bp671025 : gB p671025 0 8192) (bp671027 : gB p671027 0 6) (bp671029 : gB p671029 (-1) 8192) (bp671030 : gB p671030 0 4) (bp671031 : gB p671031 0 1000000) (bp671034 : gB p671034 0 1000000) (bf671035 : gF f671035 (-128) 127) : CtA (gV D I) l yX14_no cX14_no 1 (some (FieldType.object "SpillForgeModel$Wrong")) 5 105 1 7 [.ref q671020] (va_pl P671018 F671019) (pp_671036_Reader_no D I P671018 F671019 q671020 q671021 p671022 p671023 p671024 p671025 p671026 p671027 qo671028 p671029 p671030 p671031 qo671032 qo671033 p671034 f671035) gNA := by
  refine CtA_of hl0 (by decide) (Nat.le_of_ble_eq_true rfl) ?_
  have bp671026 := gB_any p671026
  refine G_new [.null, .null, .null, .null, .null, .int 0, .int 0] dr_cX14_no_0 (gk_X16 D I) wr_9_101 wr_9_102 wr_1_37 (gfs_X16) (show 0 + 1 ≤ 1 by first | omega | decide) (show 0 + 7 ≤ 7 by first | omega | decide) (fun q671037 => Gp_in (fun P671038 F671039 hq671040 hP671041 e671042 n671043 => ?_))
  refine G_widen (cs' := 1) (sl' := 7) (by omega) (by omega) ?_
  have he671044 : F671039 q671020 = .inr (19, [.ref q671021, .int p671022, .int p671023, .int p671024, .int p671025, .int p671026, .int p671027, .ref qo671028, .int p671029, .int p671030, .int p671031, .ref qo671032, .ref qo671033, .int p671034]) := (n671043 q671020 (fun h => hq671040 (h ▸ hmq671020))).trans heq671020
  have he671045 : F671039 q671021 = .inl (I .byte, 8192, .inl f671035) := (n671043 q671021 (fun h => hq671040 (h ▸ hmq671021))).trans heq671021
  have he671046 : F671039 q671037 = .inr (21, [.null, .null, .null, .null, .null, .int 0, .int 0]) := e671042
  have hm671047 : q671020 ∈ P671038 := (hP671041 q671020).mpr (Or.inl hmq671020)
  have hm671048 : q671021 ∈ P671038 := (hP671041 q671021).mpr (Or.inl hmq671021)
  have hm671049 : q671037 ∈ P671038 := (hP671041 q671037).mpr (Or.inr rfl)
  have hq671050 : q671037 ∉ P671018 := fun z => hq671040 ((rSub_rf (P := P671018)) q671037 z)
  have hfr671051 : rFr [] P671018 F671019 F671039 := rFr_new (rSub_rf (P := P671018)) hq671040 (rFr_rf (W := []) (P := P671018) (F := F671019)) n671043
  have hsb671052 : rSub P671018 P671038 := rSub_new (rSub_rf (P := P671018)) hP671041
  refine G_dup dr_cX14_no_3 rfl ?_
  refine G_aload_n 0 dr_cX14_no_4 rfl ?_
  refine Gp_get 4 hm671047 he671044 dr_cX14_no_5 (gk_X14 D I) (Nat.le_of_ble_eq_true rfl) wr_9_40 rfl ?_
  refine Gw_callI (As := [.int p671025]) (gV_ok D I) (cp_671059_Wrong_init l hl0 D I P671038 F671039 q671037 p671025 0 0 hm671049 he671046 (gB_w (gBl (show Int32.toInt 0 = 0 by decide)) (by decide) (by decide))) dr_cX14_no_8 ⟨wr_9_110, wr_1_37, wr_9_112, by decide, rfl, (Nat.le_of_ble_eq_true rfl), (Nat.le_of_ble_eq_true rfl)⟩ wr_9_111 rfl (show 1 + 0 ≤ 1 by first | omega | decide) (show 7 + 0 ≤ 7 by first | omega | decide) (Nat.le_of_ble_eq_true rfl) (fun r671248 w671249 dc671245 ds671246 hp671247 => ?_)
  obtain ⟨F671250, rfl, rfl, hfr671252, he671253, hdc, hds⟩ := hp671247
  have he671254 : F671250 q671020 = .inr (19, [.ref q671021, .int p671022, .int p671023, .int p671024, .int p671025, .int p671026, .int p671027, .ref qo671028, .int p671029, .int p671030, .int p671031, .ref qo671032, .ref qo671033, .int p671034]) := (hfr671252 q671020 hm671047 (nm_c (fun h => hq671050 (h ▸ hmq671020)) nm_n)).trans he671044
  have he671255 : F671250 q671021 = .inl (I .byte, 8192, .inl f671035) := (hfr671252 q671021 hm671048 (nm_c (fun h => hq671050 (h ▸ hmq671021)) nm_n)).trans he671045
  have hfr671256 : rFr [] P671018 F671019 F671250 := rFr_call hsb671052 hfr671051 hfr671252 (fun b hb hn => ⟨nm_n, (nm_c (fun e => hq671050 (e ▸ hb)) nm_n)⟩)
  change G _ _ _ _ _ _ _ _ _ _ _
  refine G_widen (cs' := 1) (sl' := 7) (by omega) (by omega) ?_
  exact G_aretA (FieldType.object "SpillForgeModel$Wrong") dr_cX14_no_11 rfl (by first | exact Or.inl ⟨_, rfl⟩ | exact Or.inr ⟨_, rfl⟩) (Or.inr ⟨_, rfl⟩) (Nat.le_of_ble_eq_true rfl) (Nat.le_of_ble_eq_true rfl) ⟨P671038, F671250, q671037, rfl, rfl, hsb671052, hfr671256, he671254, he671255, he671253, hm671049, hq671050, (Nat.le_of_ble_eq_true rfl), (Nat.le_of_ble_eq_true rfl)⟩
/- tr_RReader_is: result -/
def tr_RReader_is (bs : List Int32) (a0_kind : Int32) (xt : gTx) (o1 : Int32) : Prop := ∀ R : (Int32) → Prop,
  (a0_kind.toInt = 5 → tr_RString_equals bs xt.2 xt.1 (0 : Int32) → R (0 : Int32)) →
  (a0_kind.toInt = 5 → tr_RString_equals bs xt.2 xt.1 (1 : Int32) → R (1 : Int32)) →
  (a0_kind.toInt ≠ 5 → a0_kind.toInt ≠ 1 → R (0 : Int32)) →
  (a0_kind.toInt ≠ 5 → a0_kind.toInt = 1 → tr_RString_equals bs xt.2 xt.1 (0 : Int32) → R (0 : Int32)) →
  (a0_kind.toInt ≠ 5 → a0_kind.toInt = 1 → tr_RString_equals bs xt.2 xt.1 (1 : Int32) → R (1 : Int32)) →
  R o1
abbrev ky_671283_Reader_is : gKey := (cX14_is, 2, "SpillForgeModel$Reader", (some FieldType.boolean), [], "is", fun _ _ => True)
def pp_671283_Reader_is (D : va_G) (I : FieldType → ClassId) (P671260 : List Nat) (F671261 : Nat → va_E) (q671262 : Nat) (q671263 : Nat) (qs671264 : Nat) (qb671265 : Nat) (bs671266 : List Int32) (p671267 : Int32) (p671268 : Int32) (p671269 : Int32) (p671270 : Int32) (p671271 : Int32) (p671272 : Int32) (qo671273 : Nat) (p671274 : Int32) (p671275 : Int32) (p671276 : Int32) (qo671277 : Nat) (qo671278 : Nat) (p671279 : Int32) (f671280 : Nat → Int32) (xt671281 : gTx) : Option Value → va_W → Nat → Nat → Prop := fun r w dc ds => ∃ (o671338 : Int32), r = some (.int o671338) ∧ w = va_pl P671260 F671261 ∧ dc ≤ 0 ∧ ds ≤ 0 ∧ gB o671338 0 1 ∧ isK p671269 o671338 ∧ tr_RReader_is bs671266 p671269 xt671281 o671338
set_option maxRecDepth 100000 in
set_option maxHeartbeats 4000000 in
theorem cp_671283_Reader_is (l : Launch) (hl0 : l.stackTraces = false) (D : va_G) (I : FieldType → ClassId) (P671260 : List Nat) (F671261 : Nat → va_E) (q671262 : Nat) (q671263 : Nat) (qs671264 : Nat) (qb671265 : Nat) (bs671266 : List Int32) (p671267 : Int32) (p671268 : Int32) (p671269 : Int32) (p671270 : Int32) (p671271 : Int32) (p671272 : Int32) (qo671273 : Nat) (p671274 : Int32) (p671275 : Int32) (p671276 : Int32) (qo671277 : Nat) (qo671278 : Nat) (p671279 : Int32) (f671280 : Nat → Int32) (xt671281 : gTx) (hmq671262 : q671262 ∈ P671260) (hmq671263 : q671263 ∈ P671260) (heq671262 : F671261 q671262 = .inr (19, [.ref q671263, .int p671267, .int p671268, .int p671269, .int p671270, .int p671271, .int p671272, .ref qo671273, .int p671274, .int p671275, .int p671276, .ref qo671277, .ref qo671278, .int p671279])) (heq671263 : F671261 q671263 = .inl (I .byte, 8192, .inl f671280)) (hbs671266 : ∀ A s H, (gV D I).2.2.2.1 A s H → gSC qs671264 qb671265 bs671266 A s H) (nbs671266 : (bs671266.length : Int) ≤ 65535) (lbs671266 : gLB bs671266) (bp671267 : gB p671267 0 8192) (bp671268 : gB p671268 0 8192) (bp671269 : gB p671269 0 6) (bp671270 : gB p671270 0 8192) (bp671272 : gB p671272 0 6) (bp671274 : gB p671274 (-1) 8192) (bp671275 : gB p671275 0 4) (bp671276 : gB p671276 0 1000000) (bp671279 : gB p671279 0 1000000) (bf671280 : gF f671280 (-128) 127) (x671282 : tP I P671260 F671261 p671269 qo671273 qo671278 qo671277 xt671281) : CtA (gV D I) l yX14_is cX14_is 2 (some FieldType.boolean) 2 44 0 0 [.ref q671262, .ref qs671264] (va_pl P671260 F671261) (pp_671283_Reader_is D I P671260 F671261 q671262 q671263 qs671264 qb671265 bs671266 p671267 p671268 p671269 p671270 p671271 p671272 qo671273 p671274 p671275 p671276 qo671277 qo671278 p671279 f671280 xt671281) gNA := by
  refine CtA_of hl0 (by decide) (Nat.le_of_ble_eq_true rfl) ?_
  have bp671271 := gB_any p671271
  refine G_aload_n 0 dr_cX14_is_0 rfl ?_
  refine Gp_get 3 hmq671262 heq671262 dr_cX14_is_1 (gk_X14 D I) (Nat.le_of_ble_eq_true rfl) wr_9_39 rfl ?_
  refine G_iconst 5 dr_cX14_is_4 (by decide +kernel) ?_
  refine G_icmp_eq 16 dr_cX14_is_5 (by decide +kernel) (fun hc671284 => ?_) (fun hc671284 => ?_)
  · have r671285 : p671269.toInt = 5 := gj_eq hc671284 (show Int32.toInt 5 = 5 by decide)
    have bp671269' : gB p671269 5 5 := ⟨by omega, by omega⟩
    refine G_aload_n 0 dr_cX14_is_16 rfl ?_
    refine Gp_get 7 hmq671262 heq671262 dr_cX14_is_17 (gk_X14 D I) (Nat.le_of_ble_eq_true rfl) wr_9_43 rfl ?_
    obtain ⟨q671286, p671287, p671288, hm671289, he671290, hm671291, he671292, bq671286, x671293, bp671288, hg671294, hg671295⟩ := x671282.2 (by omega)
    have bp671287 := gB_any p671287
    refine G_aload_n 1 dr_cX14_is_20 rfl ?_
    refine Gw_callV (As := [.ref qs671264]) (gV_ok D I) (cp_656953_String_equals l hl0 D I P671260 F671261 qo671273 q671286 qs671264 qb671265 bs671266 p671287 p671288 xt671281.2 xt671281.1 hm671289 hm671291 he671290 he671292 hbs671266 nbs671266 lbs671266 bp671288 bq671286 (by have qa0 : Int32.toInt 0 = 0 := (by decide); omega)) dr_cX14_is_21 ⟨wr_9_145, wr_1_21, wr_9_148, by decide, rfl, (Nat.le_of_ble_eq_true rfl), (Nat.le_of_ble_eq_true rfl)⟩ wr_9_146 wr_9_147 hm671289 he671290 rfl (show 0 + 0 ≤ 0 by first | omega | decide) (show 0 + 0 ≤ 0 by first | omega | decide) (Nat.le_of_ble_eq_true rfl) (fun r671299 w671300 dc671296 ds671297 hp671298 => ?_) (fun _ _ _ _ _ z => z.elim)
    rcases hp671298 with ⟨o671301, rfl, rfl, hdc, hds, r671302, r671303, r671304⟩ | ⟨o671305, rfl, rfl, hdc, hds, r671306, r671307, r671308⟩
    · change G _ _ _ _ _ _ _ (.int 0 :: _) _ _ _
      refine G_widen (cs' := 0) (sl' := 0) (by omega) (by omega) ?_
      refine G_if_eq 31 dr_cX14_is_24 (by decide +kernel) (fun _ => ?_) (fun hc => absurd hc (by decide))
      refine G_iconst 0 dr_cX14_is_31 (by decide +kernel) ?_
      exact G_zretA FieldType.boolean dr_cX14_is_32 rfl rfl (Nat.le_of_ble_eq_true rfl) (Nat.le_of_ble_eq_true rfl) ⟨0, rfl, rfl, (Nat.le_of_ble_eq_true rfl), (Nat.le_of_ble_eq_true rfl), (gB_w (gBl (show Int32.toInt 0 = 0 by decide)) (by decide) (by decide)), (Or.inl (by decide)), (fun R c1 c2 c3 c4 c5 => c1 r671285 r671304)⟩
    · change G _ _ _ _ _ _ _ (.int 1 :: _) _ _ _
      refine G_widen (cs' := 0) (sl' := 0) (by omega) (by omega) ?_
      refine G_if_eq 31 dr_cX14_is_24 (by decide +kernel) (fun hc => absurd hc (by decide)) (fun _ => ?_)
      refine G_iconst 1 dr_cX14_is_27 (by decide +kernel) ?_
      refine G_goto 32 dr_cX14_is_28 (by decide +kernel) ?_
      exact G_zretA FieldType.boolean dr_cX14_is_32 rfl rfl (Nat.le_of_ble_eq_true rfl) (Nat.le_of_ble_eq_true rfl) ⟨1, rfl, rfl, (Nat.le_of_ble_eq_true rfl), (Nat.le_of_ble_eq_true rfl), (gB_w (gBl (show Int32.toInt 1 = 1 by decide)) (by decide) (by decide)), (Or.inr (by omega)), (fun R c1 c2 c3 c4 c5 => c2 r671285 r671308)⟩
  · have r671310 : p671269.toInt ≠ 5 := gj_neq hc671284 (show Int32.toInt 5 = 5 by decide)
    refine G_aload_n 0 dr_cX14_is_8 rfl ?_
    refine Gp_get 3 hmq671262 heq671262 dr_cX14_is_9 (gk_X14 D I) (Nat.le_of_ble_eq_true rfl) wr_9_39 rfl ?_
    refine G_iconst 1 dr_cX14_is_12 (by decide +kernel) ?_
    refine G_icmp_ne 31 dr_cX14_is_13 (by decide +kernel) (fun hc671311 => ?_) (fun hc671311 => ?_)
    · have r671312 : p671269.toInt ≠ 1 := gj_neq hc671311 (show Int32.toInt 1 = 1 by decide)
      refine G_iconst 0 dr_cX14_is_31 (by decide +kernel) ?_
      exact G_zretA FieldType.boolean dr_cX14_is_32 rfl rfl (Nat.le_of_ble_eq_true rfl) (Nat.le_of_ble_eq_true rfl) ⟨0, rfl, rfl, (Nat.le_of_ble_eq_true rfl), (Nat.le_of_ble_eq_true rfl), (gB_w (gBl (show Int32.toInt 0 = 0 by decide)) (by decide) (by decide)), (Or.inl (by decide)), (fun R c1 c2 c3 c4 c5 => c3 r671310 r671312)⟩
    · have r671313 : p671269.toInt = 1 := gj_eq hc671311 (show Int32.toInt 1 = 1 by decide)
      have bp671269' : gB p671269 1 1 := ⟨by omega, by omega⟩
      refine G_aload_n 0 dr_cX14_is_16 rfl ?_
      refine Gp_get 7 hmq671262 heq671262 dr_cX14_is_17 (gk_X14 D I) (Nat.le_of_ble_eq_true rfl) wr_9_43 rfl ?_
      obtain ⟨q671314, p671315, p671316, hm671317, he671318, hm671319, he671320, bq671314, x671321, bp671316, hg671322, hg671323⟩ := x671282.1 (by omega)
      have bp671315 := gB_any p671315
      refine G_aload_n 1 dr_cX14_is_20 rfl ?_
      refine Gw_callV (As := [.ref qs671264]) (gV_ok D I) (cp_656953_String_equals l hl0 D I P671260 F671261 qo671273 q671314 qs671264 qb671265 bs671266 p671315 p671316 xt671281.2 xt671281.1 hm671317 hm671319 he671318 he671320 hbs671266 nbs671266 lbs671266 bp671316 bq671314 (by have qa0 : Int32.toInt 0 = 0 := (by decide); omega)) dr_cX14_is_21 ⟨wr_9_145, wr_1_21, wr_9_148, by decide, rfl, (Nat.le_of_ble_eq_true rfl), (Nat.le_of_ble_eq_true rfl)⟩ wr_9_146 wr_9_147 hm671317 he671318 rfl (show 0 + 0 ≤ 0 by first | omega | decide) (show 0 + 0 ≤ 0 by first | omega | decide) (Nat.le_of_ble_eq_true rfl) (fun r671327 w671328 dc671324 ds671325 hp671326 => ?_) (fun _ _ _ _ _ z => z.elim)
      rcases hp671326 with ⟨o671329, rfl, rfl, hdc, hds, r671330, r671331, r671332⟩ | ⟨o671333, rfl, rfl, hdc, hds, r671334, r671335, r671336⟩
      · change G _ _ _ _ _ _ _ (.int 0 :: _) _ _ _
        refine G_widen (cs' := 0) (sl' := 0) (by omega) (by omega) ?_
        refine G_if_eq 31 dr_cX14_is_24 (by decide +kernel) (fun _ => ?_) (fun hc => absurd hc (by decide))
        refine G_iconst 0 dr_cX14_is_31 (by decide +kernel) ?_
        exact G_zretA FieldType.boolean dr_cX14_is_32 rfl rfl (Nat.le_of_ble_eq_true rfl) (Nat.le_of_ble_eq_true rfl) ⟨0, rfl, rfl, (Nat.le_of_ble_eq_true rfl), (Nat.le_of_ble_eq_true rfl), (gB_w (gBl (show Int32.toInt 0 = 0 by decide)) (by decide) (by decide)), (Or.inl (by decide)), (fun R c1 c2 c3 c4 c5 => c4 r671310 r671313 r671332)⟩
      · change G _ _ _ _ _ _ _ (.int 1 :: _) _ _ _
        refine G_widen (cs' := 0) (sl' := 0) (by omega) (by omega) ?_
        refine G_if_eq 31 dr_cX14_is_24 (by decide +kernel) (fun hc => absurd hc (by decide)) (fun _ => ?_)
        refine G_iconst 1 dr_cX14_is_27 (by decide +kernel) ?_
        refine G_goto 32 dr_cX14_is_28 (by decide +kernel) ?_
        exact G_zretA FieldType.boolean dr_cX14_is_32 rfl rfl (Nat.le_of_ble_eq_true rfl) (Nat.le_of_ble_eq_true rfl) ⟨1, rfl, rfl, (Nat.le_of_ble_eq_true rfl), (Nat.le_of_ble_eq_true rfl), (gB_w (gBl (show Int32.toInt 1 = 1 by decide)) (by decide) (by decide)), (Or.inr (by omega)), (fun R c1 c2 c3 c4 c5 => c5 r671310 r671313 r671336)⟩
/- tr_RReader_want: a.0...at, a.0...kind, a.0...place, a.0...value -/
def tr_RReader_want (bs : List Int32) (a0_n : Int32) (a0_at : Int32) (a0_kind : Int32) (a0_value : Int32) (a0_t_v : Nat → Int32) (xt : gTx) (o1 : Int32) (o2 : Int32) (o3 : Int32) (o4 : Int32) (o5 : gTx) : Prop := ∀ R : (Int32) → (Int32) → (Int32) → (Int32) → (gTx) → Prop,
  (∀ (x1 : Int32) (x2 : gTx) (x3 : Int32) (x4 : Int32) (x5 : Int32) (x6 : Int32), gB x1 0 1 → tr_RReader_is bs a0_kind xt x1 → x1.toInt ≠ 0 → gB x3 0 8192 → gB x4 0 6 → gB x5 0 8192 → tr_RReader_next a0_n a0_at a0_kind a0_value a0_t_v x3 x4 x5 x6 x2 → R x3 x4 x5 x6 x2) →
  R o1 o2 o3 o4 o5
/- tx_RReader_want: throws -/
def tx_RReader_want (bs : List Int32) (a0_kind : Int32) (xt : gTx) : Prop := ∀ R : Prop,
  (∀ (x1 : Int32), gB x1 0 1 → tr_RReader_is bs a0_kind xt x1 → x1.toInt = 0 → R) →
  R
abbrev ky_671365_Reader_want : gKey := (cX14_want, 2, "SpillForgeModel$Reader", none, [], "want", fun _ _ => True)
def pp_671365_Reader_want (D : va_G) (I : FieldType → ClassId) (P671339 : List Nat) (F671340 : Nat → va_E) (q671341 : Nat) (q671342 : Nat) (qs671343 : Nat) (qb671344 : Nat) (bs671345 : List Int32) (p671346 : Int32) (p671347 : Int32) (p671348 : Int32) (p671349 : Int32) (p671350 : Int32) (p671351 : Int32) (qo671352 : Nat) (p671353 : Int32) (p671354 : Int32) (p671355 : Int32) (qo671356 : Nat) (qo671357 : Nat) (p671358 : Int32) (f671359 : Nat → Int32) (xt671360 : gTx) : Option Value → va_W → Nat → Nat → Prop := fun r w dc ds => ∃ (P671430 : List Nat) (F671431 : Nat → va_E) (o671425 : Int32) (o671426 : Int32) (o671427 : Int32) (o671428 : Int32) (q671429 : Nat) (xt671432 : gTx), r = none ∧ w = va_pl P671430 F671431 ∧ rSub P671339 P671430 ∧ rFr [q671341] P671339 F671340 F671431 ∧ F671431 q671341 = .inr (19, [.ref q671342, .int p671346, .int o671425, .int o671426, .int o671427, .int o671428, .int p671348, .ref q671429, .int p671353, .int p671354, .int p671355, .ref qo671356, .ref qo671357, .int p671358]) ∧ F671431 q671342 = .inl (I .byte, 8192, .inl f671359) ∧ dc ≤ (16 * (o671425.toInt - p671347.toInt)).toNat ∧ ds ≤ (160 * (o671425.toInt - p671347.toInt)).toNat ∧ gB o671425 0 8192 ∧ gB o671426 0 6 ∧ gB o671427 0 8192 ∧ p671347.toInt ≤ o671425.toInt ∧ prP o671426 p671347 o671425 ∧ o671425.toInt ≤ p671346.toInt ∧ tP I P671430 F671431 o671426 q671429 qo671357 qo671356 xt671432 ∧ vP o671426 o671428 ∧ nzK p671348 ∧ tr_RReader_want bs671345 p671346 p671347 p671348 p671350 f671359 xt671360 o671425 o671426 o671427 o671428 xt671432
def xp_671365_Reader_want (D : va_G) (I : FieldType → ClassId) (P671339 : List Nat) (F671340 : Nat → va_E) (q671341 : Nat) (q671342 : Nat) (qs671343 : Nat) (qb671344 : Nat) (bs671345 : List Int32) (p671346 : Int32) (p671347 : Int32) (p671348 : Int32) (p671349 : Int32) (p671350 : Int32) (p671351 : Int32) (qo671352 : Nat) (p671353 : Int32) (p671354 : Int32) (p671355 : Int32) (qo671356 : Nat) (qo671357 : Nat) (p671358 : Int32) (f671359 : Nat → Int32) (xt671360 : gTx) : String → Nat → va_W → Nat → Nat → Prop := fun E q w dc ds => ∃ (P671434 : List Nat) (F671433 : Nat → va_E), E = "SpillForgeModel$Wrong" ∧ w = va_pl P671434 F671433 ∧ rSub P671339 P671434 ∧ rFr [] P671339 F671340 F671433 ∧ q ∈ P671434 ∧ q ∉ P671339 ∧ wrF F671433 q ∧ dc ≤ (16 * (p671346.toInt - p671347.toInt)).toNat + 1 ∧ ds ≤ (160 * (p671346.toInt - p671347.toInt)).toNat + 7 ∧ tx_RReader_want bs671345 p671348 xt671360
set_option maxRecDepth 100000 in
set_option maxHeartbeats 4000000 in
theorem cp_671365_Reader_want (l : Launch) (hl0 : l.stackTraces = false) (D : va_G) (I : FieldType → ClassId) (P671339 : List Nat) (F671340 : Nat → va_E) (q671341 : Nat) (q671342 : Nat) (qs671343 : Nat) (qb671344 : Nat) (bs671345 : List Int32) (p671346 : Int32) (p671347 : Int32) (p671348 : Int32) (p671349 : Int32) (p671350 : Int32) (p671351 : Int32) (qo671352 : Nat) (p671353 : Int32) (p671354 : Int32) (p671355 : Int32) (qo671356 : Nat) (qo671357 : Nat) (p671358 : Int32) (f671359 : Nat → Int32) (xt671360 : gTx) (hmq671341 : q671341 ∈ P671339) (hmq671342 : q671342 ∈ P671339) (heq671341 : F671340 q671341 = .inr (19, [.ref q671342, .int p671346, .int p671347, .int p671348, .int p671349, .int p671350, .int p671351, .ref qo671352, .int p671353, .int p671354, .int p671355, .ref qo671356, .ref qo671357, .int p671358])) (heq671342 : F671340 q671342 = .inl (I .byte, 8192, .inl f671359)) (hbs671345 : ∀ A s H, (gV D I).2.2.2.1 A s H → gSC qs671343 qb671344 bs671345 A s H) (nbs671345 : (bs671345.length : Int) ≤ 65535) (lbs671345 : gLB bs671345) (bp671346 : gB p671346 0 8192) (bp671347 : gB p671347 0 8192) (bp671348 : gB p671348 0 6) (bp671349 : gB p671349 0 8192) (bp671351 : gB p671351 0 6) (bp671353 : gB p671353 (-1) 8192) (bp671354 : gB p671354 0 4) (bp671355 : gB p671355 0 1000000) (bp671358 : gB p671358 0 1000000) (bf671359 : gF f671359 (-128) 127) (x671361 : p671347.toInt ≤ p671346.toInt) (x671362 : qo671357 ∈ P671339) (x671363 : qo671356 ∈ P671339) (x671364 : tP I P671339 F671340 p671348 qo671352 qo671357 qo671356 xt671360) : CtA (gV D I) l yX14_want cX14_want 2 none 8 177 ((16 * (p671346.toInt - p671347.toInt)).toNat + 1) ((160 * (p671346.toInt - p671347.toInt)).toNat + 7) [.ref q671341, .ref qs671343] (va_pl P671339 F671340) (pp_671365_Reader_want D I P671339 F671340 q671341 q671342 qs671343 qb671344 bs671345 p671346 p671347 p671348 p671349 p671350 p671351 qo671352 p671353 p671354 p671355 qo671356 qo671357 p671358 f671359 xt671360) (xp_671365_Reader_want D I P671339 F671340 q671341 q671342 qs671343 qb671344 bs671345 p671346 p671347 p671348 p671349 p671350 p671351 qo671352 p671353 p671354 p671355 qo671356 qo671357 p671358 f671359 xt671360) := by
  refine CtA_of hl0 (by decide) (Nat.le_of_ble_eq_true rfl) ?_
  have bp671350 := gB_any p671350
  refine G_aload_n 0 dr_cX14_want_0 rfl ?_
  refine G_aload_n 1 dr_cX14_want_1 rfl ?_
  refine Gw_callV (As := [.ref qs671343]) (gV_ok D I) (cp_671283_Reader_is l hl0 D I P671339 F671340 q671341 q671342 qs671343 qb671344 bs671345 p671346 p671347 p671348 p671349 p671350 p671351 qo671352 p671353 p671354 p671355 qo671356 qo671357 p671358 f671359 xt671360 hmq671341 hmq671342 heq671341 heq671342 hbs671345 nbs671345 lbs671345 bp671346 bp671347 bp671348 bp671349 bp671351 bp671353 bp671354 bp671355 bp671358 bf671359 x671364) dr_cX14_want_2 ⟨wr_9_141, wr_1_32, wr_9_144, by decide, rfl, (Nat.le_of_ble_eq_true rfl), (Nat.le_of_ble_eq_true rfl)⟩ wr_9_143 wr_p_84 hmq671341 heq671341 rfl (show 0 + 0 ≤ ((16 * (p671346.toInt - p671347.toInt)).toNat + 1) by first | omega | decide) (show 0 + 0 ≤ ((160 * (p671346.toInt - p671347.toInt)).toNat + 7) by first | omega | decide) (Nat.le_of_ble_eq_true rfl) (fun r671369 w671370 dc671366 ds671367 hp671368 => ?_) (fun _ _ _ _ _ z => z.elim)
  obtain ⟨o671371, rfl, rfl, hdc, hds, bo671371, x671372, ht671373⟩ := hp671368
  change G _ _ _ _ _ _ _ (.int o671371 :: _) _ _ _
  refine G_widen (cs' := 0) (sl' := 0) (by omega) (by omega) ?_
  refine G_if_ne 13 dr_cX14_want_5 (by decide +kernel) (fun hc671374 => ?_) (fun hc671374 => ?_)
  · have r671375 : o671371.toInt ≠ 0 := gj_neq hc671374 (show Int32.toInt 0 = 0 by decide)
    have bo671371' : gB o671371 1 1 := ⟨by omega, by omega⟩
    refine G_aload_n 0 dr_cX14_want_13 rfl ?_
    refine Gw_callV (As := []) (gV_ok D I) (cp_669296_Reader_next l hl0 D I P671339 F671340 q671341 q671342 p671346 p671347 p671348 p671349 p671350 p671351 qo671352 p671353 p671354 p671355 qo671356 qo671357 p671358 f671359 hmq671341 hmq671342 heq671341 heq671342 bp671346 bp671347 bp671348 bp671349 bp671351 bp671353 bp671354 bp671355 bp671358 bf671359 (by omega) x671362 x671363) dr_cX14_want_14 ⟨wr_7_215, wr_1_32, wr_7_218, by decide, rfl, (Nat.le_of_ble_eq_true rfl), (Nat.le_of_ble_eq_true rfl)⟩ wr_7_217 wr_p_75 hmq671341 heq671341 rfl (show 0 + ((16 * (p671346.toInt - p671347.toInt)).toNat) ≤ ((16 * (p671346.toInt - p671347.toInt)).toNat + 1) by first | omega | decide) (show 0 + ((160 * (p671346.toInt - p671347.toInt)).toNat) ≤ ((160 * (p671346.toInt - p671347.toInt)).toNat + 7) by first | omega | decide) (Nat.le_of_ble_eq_true rfl) (fun r671379 w671380 dc671376 ds671377 hp671378 => ?_) (fun _ _ _ _ _ z => z.elim)
    obtain ⟨P671393, F671394, o671381, o671382, o671383, o671384, q671385, xt671392, rfl, rfl, hsb671395, hfr671396, he671397, he671398, hdc, hds, bo671381, bo671382, bo671383, x671386, x671387, x671388, x671389, x671390, ht671391⟩ := hp671378
    have hm671399 : q671341 ∈ P671393 := hsb671395 q671341 hmq671341
    have hm671400 : q671342 ∈ P671393 := hsb671395 q671342 hmq671342
    have hsb671401 : rSub P671339 P671393 := rSub_tr (rSub_rf (P := P671339)) hsb671395
    have hfr671402 : rFr [q671341] P671339 F671340 F671394 := rFr_call (rSub_rf (P := P671339)) (rFr_rf (W := []) (P := P671339) (F := F671340)) hfr671396 (fun b hb hn => ⟨nm_n, (nm_c (fun e => hn (e ▸ List.mem_cons_self)) nm_n)⟩)
    have bo671384 := gB_any o671384
    change G _ _ _ _ _ _ _ _ _ _ _
    refine G_widen (cs' := (16 * (o671381.toInt - p671347.toInt)).toNat) (sl' := (160 * (o671381.toInt - p671347.toInt)).toNat) (by omega) (by omega) ?_
    exact G_vretA dr_cX14_want_17 rfl (show (16 * (o671381.toInt - p671347.toInt)).toNat ≤ ((16 * (p671346.toInt - p671347.toInt)).toNat + 1) by omega) (show (160 * (o671381.toInt - p671347.toInt)).toNat ≤ ((160 * (p671346.toInt - p671347.toInt)).toNat + 7) by omega) ⟨P671393, F671394, o671381, o671382, o671383, o671384, q671385, xt671392, rfl, rfl, hsb671401, hfr671402, he671397, he671398, (by omega), (by omega), bo671381, bo671382, bo671383, (by omega), x671387, (by omega), x671389, x671390, (isK_1 x671372 (by omega)), (fun R c1 => c1 o671371 xt671392 o671381 o671382 o671383 o671384 bo671371 ht671373 r671375 bo671381 bo671382 bo671383 ht671391)⟩
  · have r671403 : o671371.toInt = 0 := gj_eq hc671374 (show Int32.toInt 0 = 0 by decide)
    have bo671371' : gB o671371 0 0 := ⟨by omega, by omega⟩
    refine G_aload_n 0 dr_cX14_want_8 rfl ?_
    refine Gw_callV (As := []) (gV_ok D I) (cp_671036_Reader_no l hl0 D I P671339 F671340 q671341 q671342 p671346 p671347 p671348 p671349 p671350 p671351 qo671352 p671353 p671354 p671355 qo671356 qo671357 p671358 f671359 hmq671341 hmq671342 heq671341 heq671342 bp671346 bp671347 bp671348 bp671349 bp671351 bp671353 bp671354 bp671355 bp671358 bf671359) dr_cX14_want_9 ⟨wr_9_97, wr_1_32, wr_9_100, by decide, rfl, (Nat.le_of_ble_eq_true rfl), (Nat.le_of_ble_eq_true rfl)⟩ wr_9_99 wr_p_81 hmq671341 heq671341 rfl (show 0 + 1 ≤ ((16 * (p671346.toInt - p671347.toInt)).toNat + 1) by first | omega | decide) (show 0 + 7 ≤ ((160 * (p671346.toInt - p671347.toInt)).toNat + 7) by first | omega | decide) (Nat.le_of_ble_eq_true rfl) (fun r671407 w671408 dc671404 ds671405 hp671406 => ?_) (fun _ _ _ _ _ z => z.elim)
    obtain ⟨P671410, F671411, q671409, rfl, rfl, hsb671412, hfr671413, he671414, he671415, he671416, hm671417, hq671418, hdc, hds⟩ := hp671406
    have hm671419 : q671341 ∈ P671410 := hsb671412 q671341 hmq671341
    have hm671420 : q671342 ∈ P671410 := hsb671412 q671342 hmq671342
    have hq671421 : q671409 ∉ P671339 := fun z => hq671418 ((rSub_rf (P := P671339)) q671409 z)
    have hsb671422 : rSub P671339 P671410 := rSub_tr (rSub_rf (P := P671339)) hsb671412
    have hfr671423 : rFr [] P671339 F671340 F671411 := rFr_call (rSub_rf (P := P671339)) (rFr_rf (W := []) (P := P671339) (F := F671340)) hfr671413 (fun b hb hn => ⟨nm_n, nm_n⟩)
    have tp671424 : tP I P671410 F671411 p671348 qo671352 qo671357 qo671356 xt671360 := tP_new x671364 hsb671412 (fun b hb => hfr671413 b hb (fun z => by cases z)) (Or.inl rfl) (Or.inl rfl)
    change G _ _ _ _ _ _ _ (.ref q671409 :: _) _ _ _
    refine G_widen (cs' := 1) (sl' := 7) (by omega) (by omega) ?_
    exact Gp_athrow hm671417 he671416 rfl dr_cX14_want_12 (GT_outA rfl (show 1 ≤ ((16 * (p671346.toInt - p671347.toInt)).toNat + 1) by omega) (show 7 ≤ ((160 * (p671346.toInt - p671347.toInt)).toNat + 7) by omega) ⟨P671410, F671411, rfl, rfl, hsb671422, hfr671423, hm671417, hq671421, ⟨_, _, _, _, _, _, _, he671416, by omega⟩, (by omega), (by omega), (fun R c1 => c1 o671371 bo671371 ht671373 r671403)⟩)
/- tr_RReader_want2: a.0...at, a.0...kind, a.0...place, a.0...value -/
def tr_RReader_want2 (a1 : Int32) (a0_n : Int32) (a0_at : Int32) (a0_kind : Int32) (a0_value : Int32) (a0_t_v : Nat → Int32) (o1 : Int32) (o2 : Int32) (o3 : Int32) (o4 : Int32) (o5 : gTx) : Prop := ∀ R : (Int32) → (Int32) → (Int32) → (Int32) → (gTx) → Prop,
  (∀ (x1 : gTx) (x2 : Int32) (x3 : Int32) (x4 : Int32) (x5 : Int32), a0_kind.toInt = a1.toInt → gB x2 0 8192 → gB x3 0 6 → gB x4 0 8192 → tr_RReader_next a0_n a0_at a0_kind a0_value a0_t_v x2 x3 x4 x5 x1 → R x2 x3 x4 x5 x1) →
  R o1 o2 o3 o4 o5
/- tx_RReader_want2: throws -/
def tx_RReader_want2 (a1 : Int32) (a0_kind : Int32) : Prop := ∀ R : Prop,
  (a0_kind.toInt ≠ a1.toInt → R) →
  R
abbrev ky_671460_Reader_want : gKey := (cX14_want_, 3, "SpillForgeModel$Reader", (some FieldType.int), [], "want", fun _ _ => True)
def pp_671460_Reader_want (D : va_G) (I : FieldType → ClassId) (P671435 : List Nat) (F671436 : Nat → va_E) (q671437 : Nat) (q671438 : Nat) (p671439 : Int32) (p671440 : Int32) (p671441 : Int32) (p671442 : Int32) (p671443 : Int32) (p671444 : Int32) (p671445 : Int32) (qo671446 : Nat) (p671447 : Int32) (p671448 : Int32) (p671449 : Int32) (qo671450 : Nat) (qo671451 : Nat) (p671452 : Int32) (f671453 : Nat → Int32) (xt671454 : gTx) : Option Value → va_W → Nat → Nat → Prop := fun r w dc ds => ∃ (P671517 : List Nat) (F671518 : Nat → va_E) (o671512 : Int32) (o671513 : Int32) (o671514 : Int32) (o671515 : Int32) (q671516 : Nat) (xt671519 : gTx), r = some (.int p671444) ∧ w = va_pl P671517 F671518 ∧ rSub P671435 P671517 ∧ rFr [q671437] P671435 F671436 F671518 ∧ F671518 q671437 = .inr (19, [.ref q671438, .int p671440, .int o671512, .int o671513, .int o671514, .int o671515, .int p671442, .ref q671516, .int p671447, .int p671448, .int p671449, .ref qo671450, .ref qo671451, .int p671452]) ∧ F671518 q671438 = .inl (I .byte, 8192, .inl f671453) ∧ dc ≤ (16 * (o671512.toInt - p671441.toInt)).toNat ∧ ds ≤ (160 * (o671512.toInt - p671441.toInt)).toNat ∧ gB o671512 0 8192 ∧ gB o671513 0 6 ∧ gB o671514 0 8192 ∧ p671441.toInt ≤ o671512.toInt ∧ prP o671513 p671441 o671512 ∧ o671512.toInt ≤ p671440.toInt ∧ tP I P671517 F671518 o671513 q671516 qo671451 qo671450 xt671519 ∧ vP o671513 o671515 ∧ vP p671439 p671444 ∧ p671442.toInt = p671439.toInt ∧ tr_RReader_want2 p671439 p671440 p671441 p671442 p671444 f671453 o671512 o671513 o671514 o671515 xt671519
def xp_671460_Reader_want (D : va_G) (I : FieldType → ClassId) (P671435 : List Nat) (F671436 : Nat → va_E) (q671437 : Nat) (q671438 : Nat) (p671439 : Int32) (p671440 : Int32) (p671441 : Int32) (p671442 : Int32) (p671443 : Int32) (p671444 : Int32) (p671445 : Int32) (qo671446 : Nat) (p671447 : Int32) (p671448 : Int32) (p671449 : Int32) (qo671450 : Nat) (qo671451 : Nat) (p671452 : Int32) (f671453 : Nat → Int32) (xt671454 : gTx) : String → Nat → va_W → Nat → Nat → Prop := fun E q w dc ds => ∃ (P671521 : List Nat) (F671520 : Nat → va_E), E = "SpillForgeModel$Wrong" ∧ w = va_pl P671521 F671520 ∧ rSub P671435 P671521 ∧ rFr [] P671435 F671436 F671520 ∧ q ∈ P671521 ∧ q ∉ P671435 ∧ wrF F671520 q ∧ dc ≤ (16 * (p671440.toInt - p671441.toInt)).toNat + 1 ∧ ds ≤ (160 * (p671440.toInt - p671441.toInt)).toNat + 7 ∧ tx_RReader_want2 p671439 p671442
set_option maxRecDepth 100000 in
set_option maxHeartbeats 4000000 in
theorem cp_671460_Reader_want (l : Launch) (hl0 : l.stackTraces = false) (D : va_G) (I : FieldType → ClassId) (P671435 : List Nat) (F671436 : Nat → va_E) (q671437 : Nat) (q671438 : Nat) (p671439 : Int32) (p671440 : Int32) (p671441 : Int32) (p671442 : Int32) (p671443 : Int32) (p671444 : Int32) (p671445 : Int32) (qo671446 : Nat) (p671447 : Int32) (p671448 : Int32) (p671449 : Int32) (qo671450 : Nat) (qo671451 : Nat) (p671452 : Int32) (f671453 : Nat → Int32) (xt671454 : gTx) (hmq671437 : q671437 ∈ P671435) (hmq671438 : q671438 ∈ P671435) (heq671437 : F671436 q671437 = .inr (19, [.ref q671438, .int p671440, .int p671441, .int p671442, .int p671443, .int p671444, .int p671445, .ref qo671446, .int p671447, .int p671448, .int p671449, .ref qo671450, .ref qo671451, .int p671452])) (heq671438 : F671436 q671438 = .inl (I .byte, 8192, .inl f671453)) (bp671439 : gB p671439 0 6) (bp671440 : gB p671440 0 8192) (bp671441 : gB p671441 0 8192) (bp671442 : gB p671442 0 6) (bp671443 : gB p671443 0 8192) (bp671445 : gB p671445 0 6) (bp671447 : gB p671447 (-1) 8192) (bp671448 : gB p671448 0 4) (bp671449 : gB p671449 0 1000000) (bp671452 : gB p671452 0 1000000) (bf671453 : gF f671453 (-128) 127) (x671455 : p671441.toInt ≤ p671440.toInt) (x671456 : qo671451 ∈ P671435) (x671457 : qo671450 ∈ P671435) (x671458 : tP I P671435 F671436 p671442 qo671446 qo671451 qo671450 xt671454) (x671459 : vP p671442 p671444) : CtA (gV D I) l yX14_want_ cX14_want_ 3 (some FieldType.int) 8 177 ((16 * (p671440.toInt - p671441.toInt)).toNat + 1) ((160 * (p671440.toInt - p671441.toInt)).toNat + 7) [.ref q671437, .int p671439] (va_pl P671435 F671436) (pp_671460_Reader_want D I P671435 F671436 q671437 q671438 p671439 p671440 p671441 p671442 p671443 p671444 p671445 qo671446 p671447 p671448 p671449 qo671450 qo671451 p671452 f671453 xt671454) (xp_671460_Reader_want D I P671435 F671436 q671437 q671438 p671439 p671440 p671441 p671442 p671443 p671444 p671445 qo671446 p671447 p671448 p671449 qo671450 qo671451 p671452 f671453 xt671454) := by
  refine CtA_of hl0 (by decide) (Nat.le_of_ble_eq_true rfl) ?_
  have bp671444 := gB_any p671444
  refine G_aload_n 0 dr_cX14_want__0 rfl ?_
  refine Gp_get 3 hmq671437 heq671437 dr_cX14_want__1 (gk_X14 D I) (Nat.le_of_ble_eq_true rfl) wr_9_39 rfl ?_
  refine G_iload_n 1 dr_cX14_want__4 rfl ?_
  refine G_icmp_eq 13 dr_cX14_want__5 (by decide +kernel) (fun hc671461 => ?_) (fun hc671461 => ?_)
  · have r671462 : p671442.toInt = p671439.toInt := gC_eq hc671461
    refine G_aload_n 0 dr_cX14_want__13 rfl ?_
    refine Gp_get 5 hmq671437 heq671437 dr_cX14_want__14 (gk_X14 D I) (Nat.le_of_ble_eq_true rfl) wr_9_41 rfl ?_
    refine G_istore_n (L' := [(2, .int p671444), (0, .ref q671437), (1, .int p671439)]) dr_cX14_want__17 (Nat.le_of_ble_eq_true rfl) rfl ?_
    refine G_aload_n 1 dr_cX14_want__18 rfl ?_
    refine Gw_callV (As := []) (gV_ok D I) (cp_669296_Reader_next l hl0 D I P671435 F671436 q671437 q671438 p671440 p671441 p671442 p671443 p671444 p671445 qo671446 p671447 p671448 p671449 qo671450 qo671451 p671452 f671453 hmq671437 hmq671438 heq671437 heq671438 bp671440 bp671441 bp671442 bp671443 bp671445 bp671447 bp671448 bp671449 bp671452 bf671453 (by omega) x671456 x671457) dr_cX14_want__19 ⟨wr_7_215, wr_1_32, wr_7_218, by decide, rfl, (Nat.le_of_ble_eq_true rfl), (Nat.le_of_ble_eq_true rfl)⟩ wr_7_217 wr_p_75 hmq671437 heq671437 rfl (show 0 + ((16 * (p671440.toInt - p671441.toInt)).toNat) ≤ ((16 * (p671440.toInt - p671441.toInt)).toNat + 1) by first | omega | decide) (show 0 + ((160 * (p671440.toInt - p671441.toInt)).toNat) ≤ ((160 * (p671440.toInt - p671441.toInt)).toNat + 7) by first | omega | decide) (Nat.le_of_ble_eq_true rfl) (fun r671466 w671467 dc671463 ds671464 hp671465 => ?_) (fun _ _ _ _ _ z => z.elim)
    obtain ⟨P671480, F671481, o671468, o671469, o671470, o671471, q671472, xt671479, rfl, rfl, hsb671482, hfr671483, he671484, he671485, hdc, hds, bo671468, bo671469, bo671470, x671473, x671474, x671475, x671476, x671477, ht671478⟩ := hp671465
    have hm671486 : q671437 ∈ P671480 := hsb671482 q671437 hmq671437
    have hm671487 : q671438 ∈ P671480 := hsb671482 q671438 hmq671438
    have hsb671488 : rSub P671435 P671480 := rSub_tr (rSub_rf (P := P671435)) hsb671482
    have hfr671489 : rFr [q671437] P671435 F671436 F671481 := rFr_call (rSub_rf (P := P671435)) (rFr_rf (W := []) (P := P671435) (F := F671436)) hfr671483 (fun b hb hn => ⟨nm_n, (nm_c (fun e => hn (e ▸ List.mem_cons_self)) nm_n)⟩)
    have bo671471 := gB_any o671471
    change G _ _ _ _ _ _ _ _ _ _ _
    refine G_widen (cs' := (16 * (o671468.toInt - p671441.toInt)).toNat) (sl' := (160 * (o671468.toInt - p671441.toInt)).toNat) (by omega) (by omega) ?_
    refine G_iload_n 0 dr_cX14_want__22 rfl ?_
    exact G_iretA dr_cX14_want__23 rfl (show (16 * (o671468.toInt - p671441.toInt)).toNat ≤ ((16 * (p671440.toInt - p671441.toInt)).toNat + 1) by omega) (show (160 * (o671468.toInt - p671441.toInt)).toNat ≤ ((160 * (p671440.toInt - p671441.toInt)).toNat + 7) by omega) ⟨P671480, F671481, o671468, o671469, o671470, o671471, q671472, xt671479, rfl, rfl, hsb671488, hfr671489, he671484, he671485, (by omega), (by omega), bo671468, bo671469, bo671470, (by omega), x671474, (by omega), x671476, x671477, (vP_eq x671459 (by omega)), (by omega), (fun R c1 => c1 xt671479 o671468 o671469 o671470 o671471 r671462 bo671468 bo671469 bo671470 ht671478)⟩
  · have r671490 : p671442.toInt ≠ p671439.toInt := gC_ne hc671461
    refine G_aload_n 0 dr_cX14_want__8 rfl ?_
    refine Gw_callV (As := []) (gV_ok D I) (cp_671036_Reader_no l hl0 D I P671435 F671436 q671437 q671438 p671440 p671441 p671442 p671443 p671444 p671445 qo671446 p671447 p671448 p671449 qo671450 qo671451 p671452 f671453 hmq671437 hmq671438 heq671437 heq671438 bp671440 bp671441 bp671442 bp671443 bp671445 bp671447 bp671448 bp671449 bp671452 bf671453) dr_cX14_want__9 ⟨wr_9_97, wr_1_32, wr_9_100, by decide, rfl, (Nat.le_of_ble_eq_true rfl), (Nat.le_of_ble_eq_true rfl)⟩ wr_9_99 wr_p_81 hmq671437 heq671437 rfl (show 0 + 1 ≤ ((16 * (p671440.toInt - p671441.toInt)).toNat + 1) by first | omega | decide) (show 0 + 7 ≤ ((160 * (p671440.toInt - p671441.toInt)).toNat + 7) by first | omega | decide) (Nat.le_of_ble_eq_true rfl) (fun r671494 w671495 dc671491 ds671492 hp671493 => ?_) (fun _ _ _ _ _ z => z.elim)
    obtain ⟨P671497, F671498, q671496, rfl, rfl, hsb671499, hfr671500, he671501, he671502, he671503, hm671504, hq671505, hdc, hds⟩ := hp671493
    have hm671506 : q671437 ∈ P671497 := hsb671499 q671437 hmq671437
    have hm671507 : q671438 ∈ P671497 := hsb671499 q671438 hmq671438
    have hq671508 : q671496 ∉ P671435 := fun z => hq671505 ((rSub_rf (P := P671435)) q671496 z)
    have hsb671509 : rSub P671435 P671497 := rSub_tr (rSub_rf (P := P671435)) hsb671499
    have hfr671510 : rFr [] P671435 F671436 F671498 := rFr_call (rSub_rf (P := P671435)) (rFr_rf (W := []) (P := P671435) (F := F671436)) hfr671500 (fun b hb hn => ⟨nm_n, nm_n⟩)
    have tp671511 : tP I P671497 F671498 p671442 qo671446 qo671451 qo671450 xt671454 := tP_new x671458 hsb671499 (fun b hb => hfr671500 b hb (fun z => by cases z)) (Or.inl rfl) (Or.inl rfl)
    change G _ _ _ _ _ _ _ (.ref q671496 :: _) _ _ _
    refine G_widen (cs' := 1) (sl' := 7) (by omega) (by omega) ?_
    exact Gp_athrow hm671504 he671503 rfl dr_cX14_want__12 (GT_outA rfl (show 1 ≤ ((16 * (p671440.toInt - p671441.toInt)).toNat + 1) by omega) (show 7 ≤ ((160 * (p671440.toInt - p671441.toInt)).toNat + 7) by omega) ⟨P671497, F671498, rfl, rfl, hsb671509, hfr671510, hm671504, hq671508, ⟨_, _, _, _, _, _, _, he671503, by omega⟩, (by omega), (by omega), (fun R c1 => c1 r671490)⟩)
/- tr_RReader_breaks: a.0...rulePlace, a.0...rule -/
def tr_RReader_breaks (a1 : Int32) (a2 : Int32) (a0_rulePlace : Int32) (a0_rule : Int32) (o1 : Int32) (o2 : Int32) : Prop := ∀ R : (Int32) → (Int32) → Prop,
  (a0_rulePlace.toInt < 0 → R a2 a1) →
  (0 ≤ a0_rulePlace.toInt → a2.toInt < a0_rulePlace.toInt → R a2 a1) →
  (0 ≤ a0_rulePlace.toInt → a0_rulePlace.toInt ≤ a2.toInt → a2.toInt ≠ a0_rulePlace.toInt → R a0_rulePlace a0_rule) →
  (0 ≤ a0_rulePlace.toInt → a0_rulePlace.toInt ≤ a2.toInt → a2.toInt = a0_rulePlace.toInt → a0_rule.toInt ≤ a1.toInt → R a0_rulePlace a0_rule) →
  (0 ≤ a0_rulePlace.toInt → a0_rulePlace.toInt ≤ a2.toInt → a2.toInt = a0_rulePlace.toInt → a1.toInt < a0_rule.toInt → R a2 a1) →
  R o1 o2
