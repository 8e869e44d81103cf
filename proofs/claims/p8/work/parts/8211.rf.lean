theorem dr_cE_Throwable_init4_0 : decode cE_Throwable_init4 0 = .ok (.aload_n 0, 1) := by decide +kernel
theorem dr_cE_Throwable_init4_1 : decode cE_Throwable_init4 1 = .ok (.invokespecial 1, 3) := by decide +kernel
theorem wr_4_220 : (Jvm.Cond.methodLink "java/lang/Throwable" (1 : Nat) ({ cls := "java/lang/Object", name := "<init>", desc := "()V" } : Jvm.MethodName)) ∈ gw := gw_4 220 rfl rfl
theorem dr_cE_Throwable_init4_4 : decode cE_Throwable_init4 4 = .ok (.aload_n 0, 1) := by decide +kernel
theorem dr_cE_Throwable_init4_5 : decode cE_Throwable_init4 5 = .ok (.aload_n 0, 1) := by decide +kernel
theorem dr_cE_Throwable_init4_6 : decode cE_Throwable_init4 6 = .ok (.putfield 7, 3) := by decide +kernel
theorem wr_5_15 : (Jvm.Cond.fieldLink "java/lang/Throwable" (7 : Nat) "java/lang/Throwable" "cause" "Ljava/lang/Throwable;") ∈ gw := gw_5 15 rfl rfl
theorem dr_cE_Throwable_init4_9 : decode cE_Throwable_init4 9 = .ok (.aload_n 0, 1) := by decide +kernel
theorem dr_cE_Throwable_init4_10 : decode cE_Throwable_init4 10 = .ok (.getstatic 13, 3) := by decide +kernel
theorem wr_4_221 : (Jvm.Cond.fieldLink "java/lang/Throwable" (13 : Nat) "java/lang/Throwable" "UNASSIGNED_STACK" "[Ljava/lang/StackTraceElement;") ∈ gw := gw_4 221 rfl rfl
theorem dr_cE_Throwable_init4_13 : decode cE_Throwable_init4 13 = .ok (.putfield 17, 3) := by decide +kernel
theorem wr_5_16 : (Jvm.Cond.fieldLink "java/lang/Throwable" (17 : Nat) "java/lang/Throwable" "stackTrace" "[Ljava/lang/StackTraceElement;") ∈ gw := gw_5 16 rfl rfl
theorem dr_cE_Throwable_init4_16 : decode cE_Throwable_init4 16 = .ok (.aload_n 0, 1) := by decide +kernel
theorem dr_cE_Throwable_init4_17 : decode cE_Throwable_init4 17 = .ok (.getstatic 20, 3) := by decide +kernel
theorem wr_4_223 : (Jvm.Cond.fieldLink "java/lang/Throwable" (20 : Nat) "java/lang/Throwable" "SUPPRESSED_SENTINEL" "Ljava/util/List;") ∈ gw := gw_4 223 rfl rfl
theorem dr_cE_Throwable_init4_20 : decode cE_Throwable_init4 20 = .ok (.putfield 24, 3) := by decide +kernel
theorem wr_5_17 : (Jvm.Cond.fieldLink "java/lang/Throwable" (24 : Nat) "java/lang/Throwable" "suppressedExceptions" "Ljava/util/List;") ∈ gw := gw_5 17 rfl rfl
theorem dr_cE_Throwable_init4_23 : decode cE_Throwable_init4 23 = .ok (.iload 4, 2) := by decide +kernel
theorem dr_cE_Throwable_init4_25 : decode cE_Throwable_init4 25 = .ok (.ifCond .eq 11, 3) := by decide +kernel
theorem dr_cE_Throwable_init4_36 : decode cE_Throwable_init4 36 = .ok (.aload_n 0, 1) := by decide +kernel
theorem dr_cE_Throwable_init4_37 : decode cE_Throwable_init4 37 = .ok (.aconst_null, 1) := by decide +kernel
theorem dr_cE_Throwable_init4_38 : decode cE_Throwable_init4 38 = .ok (.putfield 17, 3) := by decide +kernel
theorem dr_cE_Throwable_init4_41 : decode cE_Throwable_init4 41 = .ok (.aload_n 0, 1) := by decide +kernel
theorem dr_cE_Throwable_init4_42 : decode cE_Throwable_init4 42 = .ok (.aload_n 1, 1) := by decide +kernel
theorem dr_cE_Throwable_init4_43 : decode cE_Throwable_init4 43 = .ok (.putfield 31, 3) := by decide +kernel
theorem wr_5_14 : (Jvm.Cond.fieldLink "java/lang/Throwable" (31 : Nat) "java/lang/Throwable" "detailMessage" "Ljava/lang/String;") ∈ gw := gw_5 14 rfl rfl
theorem dr_cE_Throwable_init4_46 : decode cE_Throwable_init4 46 = .ok (.aload_n 0, 1) := by decide +kernel
theorem dr_cE_Throwable_init4_47 : decode cE_Throwable_init4 47 = .ok (.aload_n 2, 1) := by decide +kernel
theorem dr_cE_Throwable_init4_48 : decode cE_Throwable_init4 48 = .ok (.putfield 7, 3) := by decide +kernel
theorem dr_cE_Throwable_init4_51 : decode cE_Throwable_init4 51 = .ok (.iload_n 3, 1) := by decide +kernel
theorem dr_cE_Throwable_init4_52 : decode cE_Throwable_init4 52 = .ok (.ifCond .ne 8, 3) := by decide +kernel
theorem dr_cE_Throwable_init4_55 : decode cE_Throwable_init4 55 = .ok (.aload_n 0, 1) := by decide +kernel
theorem dr_cE_Throwable_init4_56 : decode cE_Throwable_init4 56 = .ok (.aconst_null, 1) := by decide +kernel
theorem dr_cE_Throwable_init4_57 : decode cE_Throwable_init4 57 = .ok (.putfield 24, 3) := by decide +kernel
theorem dr_cE_Throwable_init4_60 : decode cE_Throwable_init4 60 = .ok (.return_, 1) := by decide +kernel
theorem dr_cE_Exception_init4_0 : decode cE_Exception_init4 0 = .ok (.aload_n 0, 1) := by decide +kernel
theorem dr_cE_Exception_init4_1 : decode cE_Exception_init4 1 = .ok (.aload_n 1, 1) := by decide +kernel
theorem dr_cE_Exception_init4_2 : decode cE_Exception_init4 2 = .ok (.aload_n 2, 1) := by decide +kernel
theorem dr_cE_Exception_init4_3 : decode cE_Exception_init4 3 = .ok (.iload_n 3, 1) := by decide +kernel
theorem dr_cE_Exception_init4_4 : decode cE_Exception_init4 4 = .ok (.iload 4, 2) := by decide +kernel
theorem dr_cE_Exception_init4_6 : decode cE_Exception_init4 6 = .ok (.invokespecial 16, 3) := by decide +kernel
theorem wr_9_119 : (Jvm.Cond.methodLink "java/lang/Exception" (16 : Nat) ({ cls := "java/lang/Throwable", name := "<init>", desc := "(Ljava/lang/String;Ljava/lang/Throwable;ZZ)V" } : Jvm.MethodName)) ∈ gw := gw_9 119 rfl rfl
theorem wr_1_23 : (Jvm.Cond.initialized "java/lang/Throwable") ∈ gw := gw_1 23 rfl rfl
theorem wr_9_121 : (Jvm.Cond.code ({ cls := "java/lang/Throwable", name := "<init>", desc := "(Ljava/lang/String;Ljava/lang/Throwable;ZZ)V" } : Jvm.MethodName) prog_40_method_5_code (5 : Nat) (Option.none : Option Jvm.ClassFile.FieldType)) ∈ gw := gw_9 121 rfl rfl
theorem wr_9_120 : (Jvm.Cond.instanceMethod ({ cls := "java/lang/Throwable", name := "<init>", desc := "(Ljava/lang/String;Ljava/lang/Throwable;ZZ)V" } : Jvm.MethodName)) ∈ gw := gw_9 120 rfl rfl
theorem dr_cE_Exception_init4_9 : decode cE_Exception_init4 9 = .ok (.return_, 1) := by decide +kernel
theorem dr_cE_RuntimeException_init4_0 : decode cE_RuntimeException_init4 0 = .ok (.aload_n 0, 1) := by decide +kernel
theorem dr_cE_RuntimeException_init4_1 : decode cE_RuntimeException_init4 1 = .ok (.aload_n 1, 1) := by decide +kernel
theorem dr_cE_RuntimeException_init4_2 : decode cE_RuntimeException_init4 2 = .ok (.aload_n 2, 1) := by decide +kernel
theorem dr_cE_RuntimeException_init4_3 : decode cE_RuntimeException_init4 3 = .ok (.iload_n 3, 1) := by decide +kernel
theorem dr_cE_RuntimeException_init4_4 : decode cE_RuntimeException_init4 4 = .ok (.iload 4, 2) := by decide +kernel
theorem dr_cE_RuntimeException_init4_6 : decode cE_RuntimeException_init4 6 = .ok (.invokespecial 16, 3) := by decide +kernel
theorem wr_9_116 : (Jvm.Cond.methodLink "java/lang/RuntimeException" (16 : Nat) ({ cls := "java/lang/Exception", name := "<init>", desc := "(Ljava/lang/String;Ljava/lang/Throwable;ZZ)V" } : Jvm.MethodName)) ∈ gw := gw_9 116 rfl rfl
theorem wr_1_24 : (Jvm.Cond.initialized "java/lang/Exception") ∈ gw := gw_1 24 rfl rfl
theorem wr_9_118 : (Jvm.Cond.code ({ cls := "java/lang/Exception", name := "<init>", desc := "(Ljava/lang/String;Ljava/lang/Throwable;ZZ)V" } : Jvm.MethodName) prog_25_method_5_code (5 : Nat) (Option.none : Option Jvm.ClassFile.FieldType)) ∈ gw := gw_9 118 rfl rfl
theorem wr_9_117 : (Jvm.Cond.instanceMethod ({ cls := "java/lang/Exception", name := "<init>", desc := "(Ljava/lang/String;Ljava/lang/Throwable;ZZ)V" } : Jvm.MethodName)) ∈ gw := gw_9 117 rfl rfl
theorem dr_cE_RuntimeException_init4_9 : decode cE_RuntimeException_init4 9 = .ok (.return_, 1) := by decide +kernel
theorem dr_cX16_init_0 : decode cX16_init 0 = .ok (.aload_n 0, 1) := by decide +kernel
theorem dr_cX16_init_1 : decode cX16_init 1 = .ok (.aconst_null, 1) := by decide +kernel
theorem dr_cX16_init_2 : decode cX16_init 2 = .ok (.aconst_null, 1) := by decide +kernel
theorem dr_cX16_init_3 : decode cX16_init 3 = .ok (.iconst 0, 1) := by decide +kernel
theorem dr_cX16_init_4 : decode cX16_init 4 = .ok (.iconst 0, 1) := by decide +kernel
theorem dr_cX16_init_5 : decode cX16_init 5 = .ok (.invokespecial 1, 3) := by decide +kernel
theorem wr_9_113 : (Jvm.Cond.methodLink "SpillForgeModel$Wrong" (1 : Nat) ({ cls := "java/lang/RuntimeException", name := "<init>", desc := "(Ljava/lang/String;Ljava/lang/Throwable;ZZ)V" } : Jvm.MethodName)) ∈ gw := gw_9 113 rfl rfl
theorem wr_1_25 : (Jvm.Cond.initialized "java/lang/RuntimeException") ∈ gw := gw_1 25 rfl rfl
theorem wr_9_115 : (Jvm.Cond.code ({ cls := "java/lang/RuntimeException", name := "<init>", desc := "(Ljava/lang/String;Ljava/lang/Throwable;ZZ)V" } : Jvm.MethodName) prog_33_method_5_code (5 : Nat) (Option.none : Option Jvm.ClassFile.FieldType)) ∈ gw := gw_9 115 rfl rfl
theorem wr_9_114 : (Jvm.Cond.instanceMethod ({ cls := "java/lang/RuntimeException", name := "<init>", desc := "(Ljava/lang/String;Ljava/lang/Throwable;ZZ)V" } : Jvm.MethodName)) ∈ gw := gw_9 114 rfl rfl
theorem dr_cX16_init_8 : decode cX16_init 8 = .ok (.aload_n 0, 1) := by decide +kernel
theorem dr_cX16_init_9 : decode cX16_init 9 = .ok (.iload_n 1, 1) := by decide +kernel
theorem dr_cX16_init_10 : decode cX16_init 10 = .ok (.putfield 7, 3) := by decide +kernel
theorem wr_9_122 : (Jvm.Cond.fieldLink "SpillForgeModel$Wrong" (7 : Nat) "SpillForgeModel$Wrong" "place" "I") ∈ gw := gw_9 122 rfl rfl
theorem dr_cX16_init_13 : decode cX16_init 13 = .ok (.return_, 1) := by decide +kernel
theorem dr_cX14_no_0 : decode cX14_no 0 = .ok (.new 124, 3) := by decide +kernel
theorem wr_9_101 : (Jvm.Cond.classLink "SpillForgeModel$Reader" (124 : Nat) "SpillForgeModel$Wrong") ∈ gw := gw_9 101 rfl rfl
theorem wr_9_102 : (Jvm.Cond.instantiable "SpillForgeModel$Wrong" (7 : Nat)) ∈ gw := gw_9 102 rfl rfl
theorem wr_1_37 : (Jvm.Cond.initialized "SpillForgeModel$Wrong") ∈ gw := gw_1 37 rfl rfl
theorem dr_cX14_no_3 : decode cX14_no 3 = .ok (.dup, 1) := by decide +kernel
theorem dr_cX14_no_4 : decode cX14_no 4 = .ok (.aload_n 0, 1) := by decide +kernel
theorem dr_cX14_no_5 : decode cX14_no 5 = .ok (.getfield 47, 3) := by decide +kernel
theorem dr_cX14_no_8 : decode cX14_no 8 = .ok (.invokespecial 126, 3) := by decide +kernel
theorem wr_9_110 : (Jvm.Cond.methodLink "SpillForgeModel$Reader" (126 : Nat) ({ cls := "SpillForgeModel$Wrong", name := "<init>", desc := "(I)V" } : Jvm.MethodName)) ∈ gw := gw_9 110 rfl rfl
theorem wr_9_112 : (Jvm.Cond.code ({ cls := "SpillForgeModel$Wrong", name := "<init>", desc := "(I)V" } : Jvm.MethodName) prog_19_method_1_code (2 : Nat) (Option.none : Option Jvm.ClassFile.FieldType)) ∈ gw := gw_9 112 rfl rfl
theorem wr_9_111 : (Jvm.Cond.instanceMethod ({ cls := "SpillForgeModel$Wrong", name := "<init>", desc := "(I)V" } : Jvm.MethodName)) ∈ gw := gw_9 111 rfl rfl
theorem dr_cX14_no_11 : decode cX14_no 11 = .ok (.areturn, 1) := by decide +kernel
theorem dr_cX14_is_0 : decode cX14_is 0 = .ok (.aload_n 0, 1) := by decide +kernel
theorem dr_cX14_is_1 : decode cX14_is 1 = .ok (.getfield 38, 3) := by decide +kernel
theorem dr_cX14_is_4 : decode cX14_is 4 = .ok (.iconst 5, 1) := by decide +kernel
theorem dr_cX14_is_5 : decode cX14_is 5 = .ok (.if_icmp .eq 11, 3) := by decide +kernel
theorem dr_cX14_is_16 : decode cX14_is 16 = .ok (.aload_n 0, 1) := by decide +kernel
theorem dr_cX14_is_17 : decode cX14_is 17 = .ok (.getfield 11, 3) := by decide +kernel
theorem dr_cX14_is_20 : decode cX14_is 20 = .ok (.aload_n 1, 1) := by decide +kernel
theorem dr_cX14_is_21 : decode cX14_is 21 = .ok (.invokevirtual 128, 3) := by decide +kernel
theorem wr_9_145 : (Jvm.Cond.methodLink "SpillForgeModel$Reader" (128 : Nat) ({ cls := "java/lang/String", name := "equals", desc := "(Ljava/lang/Object;)Z" } : Jvm.MethodName)) ∈ gw := gw_9 145 rfl rfl
theorem wr_9_148 : (Jvm.Cond.code ({ cls := "java/lang/String", name := "equals", desc := "(Ljava/lang/Object;)Z" } : Jvm.MethodName) prog_34_method_66_code (3 : Nat) (Option.some Jvm.ClassFile.FieldType.boolean)) ∈ gw := gw_9 148 rfl rfl
theorem wr_9_146 : (Jvm.Cond.instanceMethod ({ cls := "java/lang/String", name := "equals", desc := "(Ljava/lang/Object;)Z" } : Jvm.MethodName)) ∈ gw := gw_9 146 rfl rfl
theorem wr_9_147 : (Jvm.Cond.selects "java/lang/String" ({ cls := "java/lang/String", name := "equals", desc := "(Ljava/lang/Object;)Z" } : Jvm.MethodName) ({ cls := "java/lang/String", name := "equals", desc := "(Ljava/lang/Object;)Z" } : Jvm.MethodName)) ∈ gw := gw_9 147 rfl rfl
theorem dr_cX14_is_24 : decode cX14_is 24 = .ok (.ifCond .eq 7, 3) := by decide +kernel
theorem dr_cX14_is_31 : decode cX14_is 31 = .ok (.iconst 0, 1) := by decide +kernel
theorem dr_cX14_is_32 : decode cX14_is 32 = .ok (.ireturn, 1) := by decide +kernel
theorem dr_cX14_is_27 : decode cX14_is 27 = .ok (.iconst 1, 1) := by decide +kernel
theorem dr_cX14_is_28 : decode cX14_is 28 = .ok (.goto 4, 3) := by decide +kernel
theorem dr_cX14_is_8 : decode cX14_is 8 = .ok (.aload_n 0, 1) := by decide +kernel
theorem dr_cX14_is_9 : decode cX14_is 9 = .ok (.getfield 38, 3) := by decide +kernel
theorem dr_cX14_is_12 : decode cX14_is 12 = .ok (.iconst 1, 1) := by decide +kernel
theorem dr_cX14_is_13 : decode cX14_is 13 = .ok (.if_icmp .ne 18, 3) := by decide +kernel
theorem dr_cX14_want_0 : decode cX14_want 0 = .ok (.aload_n 0, 1) := by decide +kernel
theorem dr_cX14_want_1 : decode cX14_want 1 = .ok (.aload_n 1, 1) := by decide +kernel
theorem dr_cX14_want_2 : decode cX14_want 2 = .ok (.invokevirtual 132, 3) := by decide +kernel
theorem wr_9_141 : (Jvm.Cond.methodLink "SpillForgeModel$Reader" (132 : Nat) ({ cls := "SpillForgeModel$Reader", name := "is", desc := "(Ljava/lang/String;)Z" } : Jvm.MethodName)) ∈ gw := gw_9 141 rfl rfl
theorem wr_9_144 : (Jvm.Cond.code ({ cls := "SpillForgeModel$Reader", name := "is", desc := "(Ljava/lang/String;)Z" } : Jvm.MethodName) prog_17_method_9_code (2 : Nat) (Option.some Jvm.ClassFile.FieldType.boolean)) ∈ gw := gw_9 144 rfl rfl
theorem wr_9_143 : (Jvm.Cond.instanceMethod ({ cls := "SpillForgeModel$Reader", name := "is", desc := "(Ljava/lang/String;)Z" } : Jvm.MethodName)) ∈ gw := gw_9 143 rfl rfl
theorem wr_p_84 : Cond.selects "SpillForgeModel$Reader" ⟨"SpillForgeModel$Reader", "is", "(Ljava/lang/String;)Z"⟩ ⟨"SpillForgeModel$Reader", "is", "(Ljava/lang/String;)Z"⟩ ∈ gw := gw_p _ 84 rfl rfl rfl
theorem dr_cX14_want_5 : decode cX14_want 5 = .ok (.ifCond .ne 8, 3) := by decide +kernel
theorem dr_cX14_want_13 : decode cX14_want 13 = .ok (.aload_n 0, 1) := by decide +kernel
theorem dr_cX14_want_14 : decode cX14_want 14 = .ok (.invokevirtual 35, 3) := by decide +kernel
theorem wr_7_215 : (Jvm.Cond.methodLink "SpillForgeModel$Reader" (35 : Nat) ({ cls := "SpillForgeModel$Reader", name := "next", desc := "()V" } : Jvm.MethodName)) ∈ gw := gw_7 215 rfl rfl
theorem wr_7_218 : (Jvm.Cond.code ({ cls := "SpillForgeModel$Reader", name := "next", desc := "()V" } : Jvm.MethodName) prog_17_method_4_code (3 : Nat) (Option.none : Option Jvm.ClassFile.FieldType)) ∈ gw := gw_7 218 rfl rfl
theorem wr_7_217 : (Jvm.Cond.instanceMethod ({ cls := "SpillForgeModel$Reader", name := "next", desc := "()V" } : Jvm.MethodName)) ∈ gw := gw_7 217 rfl rfl
theorem wr_p_75 : Cond.selects "SpillForgeModel$Reader" ⟨"SpillForgeModel$Reader", "next", "()V"⟩ ⟨"SpillForgeModel$Reader", "next", "()V"⟩ ∈ gw := gw_p _ 75 rfl rfl rfl
theorem dr_cX14_want_17 : decode cX14_want 17 = .ok (.return_, 1) := by decide +kernel
theorem dr_cX14_want_8 : decode cX14_want 8 = .ok (.aload_n 0, 1) := by decide +kernel
theorem dr_cX14_want_9 : decode cX14_want 9 = .ok (.invokevirtual 136, 3) := by decide +kernel
theorem wr_9_97 : (Jvm.Cond.methodLink "SpillForgeModel$Reader" (136 : Nat) ({ cls := "SpillForgeModel$Reader", name := "no", desc := "()LSpillForgeModel$Wrong;" } : Jvm.MethodName)) ∈ gw := gw_9 97 rfl rfl
theorem wr_9_100 : (Jvm.Cond.code ({ cls := "SpillForgeModel$Reader", name := "no", desc := "()LSpillForgeModel$Wrong;" } : Jvm.MethodName) prog_17_method_8_code (1 : Nat) (Option.some (Jvm.ClassFile.FieldType.object "SpillForgeModel$Wrong"))) ∈ gw := gw_9 100 rfl rfl
theorem wr_9_99 : (Jvm.Cond.instanceMethod ({ cls := "SpillForgeModel$Reader", name := "no", desc := "()LSpillForgeModel$Wrong;" } : Jvm.MethodName)) ∈ gw := gw_9 99 rfl rfl
theorem wr_p_81 : Cond.selects "SpillForgeModel$Reader" ⟨"SpillForgeModel$Reader", "no", "()LSpillForgeModel$Wrong;"⟩ ⟨"SpillForgeModel$Reader", "no", "()LSpillForgeModel$Wrong;"⟩ ∈ gw := gw_p _ 81 rfl rfl rfl
theorem dr_cX14_want_12 : decode cX14_want 12 = .ok (.athrow, 1) := by decide +kernel
theorem dr_cX14_want__0 : decode cX14_want_ 0 = .ok (.aload_n 0, 1) := by decide +kernel
theorem dr_cX14_want__1 : decode cX14_want_ 1 = .ok (.getfield 38, 3) := by decide +kernel
theorem dr_cX14_want__4 : decode cX14_want_ 4 = .ok (.iload_n 1, 1) := by decide +kernel
theorem dr_cX14_want__5 : decode cX14_want_ 5 = .ok (.if_icmp .eq 8, 3) := by decide +kernel
theorem dr_cX14_want__13 : decode cX14_want_ 13 = .ok (.aload_n 0, 1) := by decide +kernel
theorem dr_cX14_want__14 : decode cX14_want_ 14 = .ok (.getfield 80, 3) := by decide +kernel
theorem dr_cX14_want__17 : decode cX14_want_ 17 = .ok (.istore_n 2, 1) := by decide +kernel
theorem dr_cX14_want__18 : decode cX14_want_ 18 = .ok (.aload_n 0, 1) := by decide +kernel
theorem dr_cX14_want__19 : decode cX14_want_ 19 = .ok (.invokevirtual 35, 3) := by decide +kernel
theorem dr_cX14_want__22 : decode cX14_want_ 22 = .ok (.iload_n 2, 1) := by decide +kernel
theorem dr_cX14_want__23 : decode cX14_want_ 23 = .ok (.ireturn, 1) := by decide +kernel
theorem dr_cX14_want__8 : decode cX14_want_ 8 = .ok (.aload_n 0, 1) := by decide +kernel
theorem dr_cX14_want__9 : decode cX14_want_ 9 = .ok (.invokevirtual 136, 3) := by decide +kernel
theorem dr_cX14_want__12 : decode cX14_want_ 12 = .ok (.athrow, 1) := by decide +kernel
abbrev ky_671406_Throwable_init : gKey := (cE_Throwable_init4, 5, "java/lang/Throwable", none, [], "<init>", fun _ _ => True)
def pp_671406_Throwable_init (D : va_G) (I : FieldType → ClassId) (P671401 : List Nat) (F671402 : Nat → va_E) (q671403 : Nat) (p671404 : Int32) (p671405 : Int32) : Option Value → va_W → Nat → Nat → Prop := fun r w dc ds => ∃ (F671532 : Nat → va_E), r = none ∧ w = va_pl P671401 F671532 ∧ rFr [q671403] P671401 F671402 F671532 ∧ F671532 q671403 = .inr (21, [.null, .null, .null, .null, .null, .int p671404, .int p671405]) ∧ dc ≤ 0 ∧ ds ≤ 0
set_option maxRecDepth 100000 in
set_option maxHeartbeats 4000000 in
theorem cp_671406_Throwable_init (l : Launch) (hl0 : l.stackTraces = false) (D : va_G) (I : FieldType → ClassId) (P671401 : List Nat) (F671402 : Nat → va_E) (q671403 : Nat) (p671404 : Int32) (p671405 : Int32) (hmq671403 : q671403 ∈ P671401) (heq671403 : F671402 q671403 = .inr (21, [.null, .null, .null, .null, .null, .int p671404, .int p671405])) (bp671405 : gB p671405 0 8192) : CtA (gV D I) l yE_Throwable_init4 cE_Throwable_init4 5 none 1 12 0 0 [.ref q671403, .null, .null, .int 0, .int 0] (va_pl P671401 F671402) (pp_671406_Throwable_init D I P671401 F671402 q671403 p671404 p671405) gNA := by
  refine CtA_ofF hl0 (by decide +kernel) (Nat.le_of_ble_eq_true rfl) ?_
  have bp671404 := gB_any p671404
  refine G_aload_n 0 dr_cE_Throwable_init4_0 rfl ?_
  refine G_obj dr_cE_Throwable_init4_1 wr_4_220 wr_1_51 wr_1_52 (Nat.le_of_ble_eq_true rfl) (Nat.le_of_ble_eq_true rfl) ?_
  refine G_aload_n 0 dr_cE_Throwable_init4_4 rfl ?_
  refine G_aload_n 0 dr_cE_Throwable_init4_5 rfl ?_
  refine Gp_put 0 hmq671403 heq671403 dr_cE_Throwable_init4_6 (gk_X16 D I) (Nat.le_of_ble_eq_true rfl) wr_5_15 rfl rfl rfl (Nat.le_of_ble_eq_true rfl) (fun F671407 e671408 n671409 => ?_)
  have he671410 : F671407 q671403 = .inr (21, [.ref q671403, .null, .null, .null, .null, .int p671404, .int p671405]) := e671408
  have hfr671411 : rFr [q671403] P671401 F671402 F671407 := rFr_put (rFr_rf (W := []) (P := P671401) (F := F671402)) n671409
  refine G_aload_n 0 dr_cE_Throwable_init4_9 rfl ?_
  refine G_gets dr_cE_Throwable_init4_10 wr_4_221 gz_us (fun x671414 hx671413 => ?_)
  rcases hx671413 with rfl | ⟨t671412, rfl⟩
  · refine Gp_put 1 hmq671403 he671410 dr_cE_Throwable_init4_13 (gk_X16 D I) (Nat.le_of_ble_eq_true rfl) wr_5_16 rfl rfl rfl (Nat.le_of_ble_eq_true rfl) (fun F671415 e671416 n671417 => ?_)
    have he671418 : F671415 q671403 = .inr (21, [.ref q671403, .null, .null, .null, .null, .int p671404, .int p671405]) := e671416
    have hfr671419 : rFr [q671403] P671401 F671402 F671415 := rFr_put' List.mem_cons_self hfr671411 n671417
    refine G_aload_n 0 dr_cE_Throwable_init4_16 rfl ?_
    refine G_gets dr_cE_Throwable_init4_17 wr_4_223 gz_ss (fun x671422 hx671421 => ?_)
    rcases hx671421 with rfl | ⟨t671420, rfl⟩
    · refine Gp_put 2 hmq671403 he671418 dr_cE_Throwable_init4_20 (gk_X16 D I) (Nat.le_of_ble_eq_true rfl) wr_5_17 rfl rfl rfl (Nat.le_of_ble_eq_true rfl) (fun F671423 e671424 n671425 => ?_)
      have he671426 : F671423 q671403 = .inr (21, [.ref q671403, .null, .null, .null, .null, .int p671404, .int p671405]) := e671424
      have hfr671427 : rFr [q671403] P671401 F671402 F671423 := rFr_put' List.mem_cons_self hfr671419 n671425
      refine G_iload 4 dr_cE_Throwable_init4_23 rfl ?_
      refine G_if_eq 36 dr_cE_Throwable_init4_25 (by decide +kernel) (fun _ => ?_) (fun hc => absurd hc (by decide))
      refine G_aload_n 0 dr_cE_Throwable_init4_36 rfl ?_
      refine G_null dr_cE_Throwable_init4_37 ?_
      refine Gp_put 1 hmq671403 he671426 dr_cE_Throwable_init4_38 (gk_X16 D I) (Nat.le_of_ble_eq_true rfl) wr_5_16 rfl rfl rfl (Nat.le_of_ble_eq_true rfl) (fun F671428 e671429 n671430 => ?_)
      have he671431 : F671428 q671403 = .inr (21, [.ref q671403, .null, .null, .null, .null, .int p671404, .int p671405]) := e671429
      have hfr671432 : rFr [q671403] P671401 F671402 F671428 := rFr_put' List.mem_cons_self hfr671427 n671430
      refine G_aload_n 0 dr_cE_Throwable_init4_41 rfl ?_
      refine G_aload_nN 1 dr_cE_Throwable_init4_42 rfl ?_
      refine Gp_put 3 hmq671403 he671431 dr_cE_Throwable_init4_43 (gk_X16 D I) (Nat.le_of_ble_eq_true rfl) wr_5_14 rfl rfl rfl (Nat.le_of_ble_eq_true rfl) (fun F671433 e671434 n671435 => ?_)
      have he671436 : F671433 q671403 = .inr (21, [.ref q671403, .null, .null, .null, .null, .int p671404, .int p671405]) := e671434
      have hfr671437 : rFr [q671403] P671401 F671402 F671433 := rFr_put' List.mem_cons_self hfr671432 n671435
      refine G_aload_n 0 dr_cE_Throwable_init4_46 rfl ?_
      refine G_aload_nN 2 dr_cE_Throwable_init4_47 rfl ?_
      refine Gp_put 0 hmq671403 he671436 dr_cE_Throwable_init4_48 (gk_X16 D I) (Nat.le_of_ble_eq_true rfl) wr_5_15 rfl rfl rfl (Nat.le_of_ble_eq_true rfl) (fun F671438 e671439 n671440 => ?_)
      have he671441 : F671438 q671403 = .inr (21, [.null, .null, .null, .null, .null, .int p671404, .int p671405]) := e671439
      have hfr671442 : rFr [q671403] P671401 F671402 F671438 := rFr_put' List.mem_cons_self hfr671437 n671440
      refine G_iload_n 3 dr_cE_Throwable_init4_51 rfl ?_
      refine G_if_ne 60 dr_cE_Throwable_init4_52 (by decide +kernel) (fun hc => absurd hc (by decide)) (fun _ => ?_)
      refine G_aload_n 0 dr_cE_Throwable_init4_55 rfl ?_
      refine G_null dr_cE_Throwable_init4_56 ?_
      refine Gp_put 2 hmq671403 he671441 dr_cE_Throwable_init4_57 (gk_X16 D I) (Nat.le_of_ble_eq_true rfl) wr_5_17 rfl rfl rfl (Nat.le_of_ble_eq_true rfl) (fun F671443 e671444 n671445 => ?_)
      have he671446 : F671443 q671403 = .inr (21, [.null, .null, .null, .null, .null, .int p671404, .int p671405]) := e671444
      have hfr671447 : rFr [q671403] P671401 F671402 F671443 := rFr_put' List.mem_cons_self hfr671442 n671445
      exact G_vretA dr_cE_Throwable_init4_60 rfl (Nat.le_of_ble_eq_true rfl) (Nat.le_of_ble_eq_true rfl) ⟨F671443, rfl, rfl, hfr671447, he671446, (Nat.le_of_ble_eq_true rfl), (Nat.le_of_ble_eq_true rfl)⟩
    · refine Gp_put 2 hmq671403 he671418 dr_cE_Throwable_init4_20 (gk_X16 D I) (Nat.le_of_ble_eq_true rfl) wr_5_17 rfl rfl rfl (Nat.le_of_ble_eq_true rfl) (fun F671448 e671449 n671450 => ?_)
      have he671451 : F671448 q671403 = .inr (21, [.ref q671403, .null, .ref t671420, .null, .null, .int p671404, .int p671405]) := e671449
      have hfr671452 : rFr [q671403] P671401 F671402 F671448 := rFr_put' List.mem_cons_self hfr671419 n671450
      refine G_iload 4 dr_cE_Throwable_init4_23 rfl ?_
      refine G_if_eq 36 dr_cE_Throwable_init4_25 (by decide +kernel) (fun _ => ?_) (fun hc => absurd hc (by decide))
      refine G_aload_n 0 dr_cE_Throwable_init4_36 rfl ?_
      refine G_null dr_cE_Throwable_init4_37 ?_
      refine Gp_put 1 hmq671403 he671451 dr_cE_Throwable_init4_38 (gk_X16 D I) (Nat.le_of_ble_eq_true rfl) wr_5_16 rfl rfl rfl (Nat.le_of_ble_eq_true rfl) (fun F671453 e671454 n671455 => ?_)
      have he671456 : F671453 q671403 = .inr (21, [.ref q671403, .null, .ref t671420, .null, .null, .int p671404, .int p671405]) := e671454
      have hfr671457 : rFr [q671403] P671401 F671402 F671453 := rFr_put' List.mem_cons_self hfr671452 n671455
      refine G_aload_n 0 dr_cE_Throwable_init4_41 rfl ?_
      refine G_aload_nN 1 dr_cE_Throwable_init4_42 rfl ?_
      refine Gp_put 3 hmq671403 he671456 dr_cE_Throwable_init4_43 (gk_X16 D I) (Nat.le_of_ble_eq_true rfl) wr_5_14 rfl rfl rfl (Nat.le_of_ble_eq_true rfl) (fun F671458 e671459 n671460 => ?_)
      have he671461 : F671458 q671403 = .inr (21, [.ref q671403, .null, .ref t671420, .null, .null, .int p671404, .int p671405]) := e671459
      have hfr671462 : rFr [q671403] P671401 F671402 F671458 := rFr_put' List.mem_cons_self hfr671457 n671460
      refine G_aload_n 0 dr_cE_Throwable_init4_46 rfl ?_
      refine G_aload_nN 2 dr_cE_Throwable_init4_47 rfl ?_
      refine Gp_put 0 hmq671403 he671461 dr_cE_Throwable_init4_48 (gk_X16 D I) (Nat.le_of_ble_eq_true rfl) wr_5_15 rfl rfl rfl (Nat.le_of_ble_eq_true rfl) (fun F671463 e671464 n671465 => ?_)
      have he671466 : F671463 q671403 = .inr (21, [.null, .null, .ref t671420, .null, .null, .int p671404, .int p671405]) := e671464
      have hfr671467 : rFr [q671403] P671401 F671402 F671463 := rFr_put' List.mem_cons_self hfr671462 n671465
      refine G_iload_n 3 dr_cE_Throwable_init4_51 rfl ?_
      refine G_if_ne 60 dr_cE_Throwable_init4_52 (by decide +kernel) (fun hc => absurd hc (by decide)) (fun _ => ?_)
      refine G_aload_n 0 dr_cE_Throwable_init4_55 rfl ?_
      refine G_null dr_cE_Throwable_init4_56 ?_
      refine Gp_put 2 hmq671403 he671466 dr_cE_Throwable_init4_57 (gk_X16 D I) (Nat.le_of_ble_eq_true rfl) wr_5_17 rfl rfl rfl (Nat.le_of_ble_eq_true rfl) (fun F671468 e671469 n671470 => ?_)
      have he671471 : F671468 q671403 = .inr (21, [.null, .null, .null, .null, .null, .int p671404, .int p671405]) := e671469
      have hfr671472 : rFr [q671403] P671401 F671402 F671468 := rFr_put' List.mem_cons_self hfr671467 n671470
      exact G_vretA dr_cE_Throwable_init4_60 rfl (Nat.le_of_ble_eq_true rfl) (Nat.le_of_ble_eq_true rfl) ⟨F671468, rfl, rfl, hfr671472, he671471, (Nat.le_of_ble_eq_true rfl), (Nat.le_of_ble_eq_true rfl)⟩
  · refine Gp_put 1 hmq671403 he671410 dr_cE_Throwable_init4_13 (gk_X16 D I) (Nat.le_of_ble_eq_true rfl) wr_5_16 rfl rfl rfl (Nat.le_of_ble_eq_true rfl) (fun F671473 e671474 n671475 => ?_)
    have he671476 : F671473 q671403 = .inr (21, [.ref q671403, .ref t671412, .null, .null, .null, .int p671404, .int p671405]) := e671474
    have hfr671477 : rFr [q671403] P671401 F671402 F671473 := rFr_put' List.mem_cons_self hfr671411 n671475
    refine G_aload_n 0 dr_cE_Throwable_init4_16 rfl ?_
    refine G_gets dr_cE_Throwable_init4_17 wr_4_223 gz_ss (fun x671480 hx671479 => ?_)
    rcases hx671479 with rfl | ⟨t671478, rfl⟩
    · refine Gp_put 2 hmq671403 he671476 dr_cE_Throwable_init4_20 (gk_X16 D I) (Nat.le_of_ble_eq_true rfl) wr_5_17 rfl rfl rfl (Nat.le_of_ble_eq_true rfl) (fun F671481 e671482 n671483 => ?_)
      have he671484 : F671481 q671403 = .inr (21, [.ref q671403, .ref t671412, .null, .null, .null, .int p671404, .int p671405]) := e671482
      have hfr671485 : rFr [q671403] P671401 F671402 F671481 := rFr_put' List.mem_cons_self hfr671477 n671483
      refine G_iload 4 dr_cE_Throwable_init4_23 rfl ?_
      refine G_if_eq 36 dr_cE_Throwable_init4_25 (by decide +kernel) (fun _ => ?_) (fun hc => absurd hc (by decide))
      refine G_aload_n 0 dr_cE_Throwable_init4_36 rfl ?_
      refine G_null dr_cE_Throwable_init4_37 ?_
      refine Gp_put 1 hmq671403 he671484 dr_cE_Throwable_init4_38 (gk_X16 D I) (Nat.le_of_ble_eq_true rfl) wr_5_16 rfl rfl rfl (Nat.le_of_ble_eq_true rfl) (fun F671486 e671487 n671488 => ?_)
      have he671489 : F671486 q671403 = .inr (21, [.ref q671403, .null, .null, .null, .null, .int p671404, .int p671405]) := e671487
      have hfr671490 : rFr [q671403] P671401 F671402 F671486 := rFr_put' List.mem_cons_self hfr671485 n671488
      refine G_aload_n 0 dr_cE_Throwable_init4_41 rfl ?_
      refine G_aload_nN 1 dr_cE_Throwable_init4_42 rfl ?_
      refine Gp_put 3 hmq671403 he671489 dr_cE_Throwable_init4_43 (gk_X16 D I) (Nat.le_of_ble_eq_true rfl) wr_5_14 rfl rfl rfl (Nat.le_of_ble_eq_true rfl) (fun F671491 e671492 n671493 => ?_)
      have he671494 : F671491 q671403 = .inr (21, [.ref q671403, .null, .null, .null, .null, .int p671404, .int p671405]) := e671492
      have hfr671495 : rFr [q671403] P671401 F671402 F671491 := rFr_put' List.mem_cons_self hfr671490 n671493
      refine G_aload_n 0 dr_cE_Throwable_init4_46 rfl ?_
      refine G_aload_nN 2 dr_cE_Throwable_init4_47 rfl ?_
      refine Gp_put 0 hmq671403 he671494 dr_cE_Throwable_init4_48 (gk_X16 D I) (Nat.le_of_ble_eq_true rfl) wr_5_15 rfl rfl rfl (Nat.le_of_ble_eq_true rfl) (fun F671496 e671497 n671498 => ?_)
      have he671499 : F671496 q671403 = .inr (21, [.null, .null, .null, .null, .null, .int p671404, .int p671405]) := e671497
      have hfr671500 : rFr [q671403] P671401 F671402 F671496 := rFr_put' List.mem_cons_self hfr671495 n671498
      refine G_iload_n 3 dr_cE_Throwable_init4_51 rfl ?_
      refine G_if_ne 60 dr_cE_Throwable_init4_52 (by decide +kernel) (fun hc => absurd hc (by decide)) (fun _ => ?_)
      refine G_aload_n 0 dr_cE_Throwable_init4_55 rfl ?_
      refine G_null dr_cE_Throwable_init4_56 ?_
      refine Gp_put 2 hmq671403 he671499 dr_cE_Throwable_init4_57 (gk_X16 D I) (Nat.le_of_ble_eq_true rfl) wr_5_17 rfl rfl rfl (Nat.le_of_ble_eq_true rfl) (fun F671501 e671502 n671503 => ?_)
      have he671504 : F671501 q671403 = .inr (21, [.null, .null, .null, .null, .null, .int p671404, .int p671405]) := e671502
      have hfr671505 : rFr [q671403] P671401 F671402 F671501 := rFr_put' List.mem_cons_self hfr671500 n671503
      exact G_vretA dr_cE_Throwable_init4_60 rfl (Nat.le_of_ble_eq_true rfl) (Nat.le_of_ble_eq_true rfl) ⟨F671501, rfl, rfl, hfr671505, he671504, (Nat.le_of_ble_eq_true rfl), (Nat.le_of_ble_eq_true rfl)⟩
    · refine Gp_put 2 hmq671403 he671476 dr_cE_Throwable_init4_20 (gk_X16 D I) (Nat.le_of_ble_eq_true rfl) wr_5_17 rfl rfl rfl (Nat.le_of_ble_eq_true rfl) (fun F671506 e671507 n671508 => ?_)
      have he671509 : F671506 q671403 = .inr (21, [.ref q671403, .ref t671412, .ref t671478, .null, .null, .int p671404, .int p671405]) := e671507
      have hfr671510 : rFr [q671403] P671401 F671402 F671506 := rFr_put' List.mem_cons_self hfr671477 n671508
      refine G_iload 4 dr_cE_Throwable_init4_23 rfl ?_
      refine G_if_eq 36 dr_cE_Throwable_init4_25 (by decide +kernel) (fun _ => ?_) (fun hc => absurd hc (by decide))
      refine G_aload_n 0 dr_cE_Throwable_init4_36 rfl ?_
      refine G_null dr_cE_Throwable_init4_37 ?_
      refine Gp_put 1 hmq671403 he671509 dr_cE_Throwable_init4_38 (gk_X16 D I) (Nat.le_of_ble_eq_true rfl) wr_5_16 rfl rfl rfl (Nat.le_of_ble_eq_true rfl) (fun F671511 e671512 n671513 => ?_)
      have he671514 : F671511 q671403 = .inr (21, [.ref q671403, .null, .ref t671478, .null, .null, .int p671404, .int p671405]) := e671512
      have hfr671515 : rFr [q671403] P671401 F671402 F671511 := rFr_put' List.mem_cons_self hfr671510 n671513
      refine G_aload_n 0 dr_cE_Throwable_init4_41 rfl ?_
      refine G_aload_nN 1 dr_cE_Throwable_init4_42 rfl ?_
      refine Gp_put 3 hmq671403 he671514 dr_cE_Throwable_init4_43 (gk_X16 D I) (Nat.le_of_ble_eq_true rfl) wr_5_14 rfl rfl rfl (Nat.le_of_ble_eq_true rfl) (fun F671516 e671517 n671518 => ?_)
      have he671519 : F671516 q671403 = .inr (21, [.ref q671403, .null, .ref t671478, .null, .null, .int p671404, .int p671405]) := e671517
      have hfr671520 : rFr [q671403] P671401 F671402 F671516 := rFr_put' List.mem_cons_self hfr671515 n671518
      refine G_aload_n 0 dr_cE_Throwable_init4_46 rfl ?_
      refine G_aload_nN 2 dr_cE_Throwable_init4_47 rfl ?_
      refine Gp_put 0 hmq671403 he671519 dr_cE_Throwable_init4_48 (gk_X16 D I) (Nat.le_of_ble_eq_true rfl) wr_5_15 rfl rfl rfl (Nat.le_of_ble_eq_true rfl) (fun F671521 e671522 n671523 => ?_)
      have he671524 : F671521 q671403 = .inr (21, [.null, .null, .ref t671478, .null, .null, .int p671404, .int p671405]) := e671522
      have hfr671525 : rFr [q671403] P671401 F671402 F671521 := rFr_put' List.mem_cons_self hfr671520 n671523
      refine G_iload_n 3 dr_cE_Throwable_init4_51 rfl ?_
      refine G_if_ne 60 dr_cE_Throwable_init4_52 (by decide +kernel) (fun hc => absurd hc (by decide)) (fun _ => ?_)
      refine G_aload_n 0 dr_cE_Throwable_init4_55 rfl ?_
      refine G_null dr_cE_Throwable_init4_56 ?_
      refine Gp_put 2 hmq671403 he671524 dr_cE_Throwable_init4_57 (gk_X16 D I) (Nat.le_of_ble_eq_true rfl) wr_5_17 rfl rfl rfl (Nat.le_of_ble_eq_true rfl) (fun F671526 e671527 n671528 => ?_)
      have he671529 : F671526 q671403 = .inr (21, [.null, .null, .null, .null, .null, .int p671404, .int p671405]) := e671527
      have hfr671530 : rFr [q671403] P671401 F671402 F671526 := rFr_put' List.mem_cons_self hfr671525 n671528
      exact G_vretA dr_cE_Throwable_init4_60 rfl (Nat.le_of_ble_eq_true rfl) (Nat.le_of_ble_eq_true rfl) ⟨F671526, rfl, rfl, hfr671530, he671529, (Nat.le_of_ble_eq_true rfl), (Nat.le_of_ble_eq_true rfl)⟩
abbrev ky_671400_Exception_init : gKey := (cE_Exception_init4, 5, "java/lang/Exception", none, [], "<init>", fun _ _ => True)
def pp_671400_Exception_init (D : va_G) (I : FieldType → ClassId) (P671395 : List Nat) (F671396 : Nat → va_E) (q671397 : Nat) (p671398 : Int32) (p671399 : Int32) : Option Value → va_W → Nat → Nat → Prop := fun r w dc ds => ∃ (F671544 : Nat → va_E), r = none ∧ w = va_pl P671395 F671544 ∧ rFr [q671397] P671395 F671396 F671544 ∧ F671544 q671397 = .inr (21, [.null, .null, .null, .null, .null, .int p671398, .int p671399]) ∧ dc ≤ 0 ∧ ds ≤ 0
set_option maxRecDepth 100000 in
set_option maxHeartbeats 4000000 in
theorem cp_671400_Exception_init (l : Launch) (hl0 : l.stackTraces = false) (D : va_G) (I : FieldType → ClassId) (P671395 : List Nat) (F671396 : Nat → va_E) (q671397 : Nat) (p671398 : Int32) (p671399 : Int32) (hmq671397 : q671397 ∈ P671395) (heq671397 : F671396 q671397 = .inr (21, [.null, .null, .null, .null, .null, .int p671398, .int p671399])) (bp671399 : gB p671399 0 8192) : CtA (gV D I) l yE_Exception_init4 cE_Exception_init4 5 none 2 36 0 0 [.ref q671397, .null, .null, .int 0, .int 0] (va_pl P671395 F671396) (pp_671400_Exception_init D I P671395 F671396 q671397 p671398 p671399) gNA := by
  refine CtA_ofF hl0 (by decide +kernel) (Nat.le_of_ble_eq_true rfl) ?_
  have bp671398 := gB_any p671398
  refine G_aload_n 0 dr_cE_Exception_init4_0 rfl ?_
  refine G_aload_nN 1 dr_cE_Exception_init4_1 rfl ?_
  refine G_aload_nN 2 dr_cE_Exception_init4_2 rfl ?_
  refine G_iload_n 3 dr_cE_Exception_init4_3 rfl ?_
  refine G_iload 4 dr_cE_Exception_init4_4 rfl ?_
  refine Gw_callI (As := [.null, .null, .int 0, .int 0]) (gV_ok D I) (cp_671406_Throwable_init l hl0 D I P671395 F671396 q671397 p671398 p671399 hmq671397 heq671397 bp671399) dr_cE_Exception_init4_6 ⟨wr_9_119, wr_1_23, wr_9_121, by decide, rfl, (Nat.le_of_ble_eq_true rfl), (Nat.le_of_ble_eq_true rfl)⟩ wr_9_120 rfl (show 0 + 0 ≤ 0 by first | omega | decide) (show 0 + 0 ≤ 0 by first | omega | decide) (Nat.le_of_ble_eq_true rfl) (fun r671536 w671537 dc671533 ds671534 hp671535 => ?_)
  obtain ⟨F671538, rfl, rfl, hfr671540, he671541, hdc, hds⟩ := hp671535
  have hfr671542 : rFr [q671397] P671395 F671396 F671538 := rFr_call (rSub_rf (P := P671395)) (rFr_rf (W := []) (P := P671395) (F := F671396)) hfr671540 (fun b hb hn => ⟨nm_n, (nm_c (fun e => hn (e ▸ List.mem_cons_self)) nm_n)⟩)
  change G _ _ _ _ _ _ _ _ _ _ _
  refine G_widen (cs' := 0) (sl' := 0) (by omega) (by omega) ?_
  exact G_vretA dr_cE_Exception_init4_9 rfl (Nat.le_of_ble_eq_true rfl) (Nat.le_of_ble_eq_true rfl) ⟨F671538, rfl, rfl, hfr671542, he671541, (Nat.le_of_ble_eq_true rfl), (Nat.le_of_ble_eq_true rfl)⟩
abbrev ky_671394_RuntimeException_init : gKey := (cE_RuntimeException_init4, 5, "java/lang/RuntimeException", none, [], "<init>", fun _ _ => True)
def pp_671394_RuntimeException_init (D : va_G) (I : FieldType → ClassId) (P671389 : List Nat) (F671390 : Nat → va_E) (q671391 : Nat) (p671392 : Int32) (p671393 : Int32) : Option Value → va_W → Nat → Nat → Prop := fun r w dc ds => ∃ (F671556 : Nat → va_E), r = none ∧ w = va_pl P671389 F671556 ∧ rFr [q671391] P671389 F671390 F671556 ∧ F671556 q671391 = .inr (21, [.null, .null, .null, .null, .null, .int p671392, .int p671393]) ∧ dc ≤ 0 ∧ ds ≤ 0
set_option maxRecDepth 100000 in
set_option maxHeartbeats 4000000 in
theorem cp_671394_RuntimeException_init (l : Launch) (hl0 : l.stackTraces = false) (D : va_G) (I : FieldType → ClassId) (P671389 : List Nat) (F671390 : Nat → va_E) (q671391 : Nat) (p671392 : Int32) (p671393 : Int32) (hmq671391 : q671391 ∈ P671389) (heq671391 : F671390 q671391 = .inr (21, [.null, .null, .null, .null, .null, .int p671392, .int p671393])) (bp671393 : gB p671393 0 8192) : CtA (gV D I) l yE_RuntimeException_init4 cE_RuntimeException_init4 5 none 3 60 0 0 [.ref q671391, .null, .null, .int 0, .int 0] (va_pl P671389 F671390) (pp_671394_RuntimeException_init D I P671389 F671390 q671391 p671392 p671393) gNA := by
  refine CtA_ofF hl0 (by decide +kernel) (Nat.le_of_ble_eq_true rfl) ?_
  have bp671392 := gB_any p671392
  refine G_aload_n 0 dr_cE_RuntimeException_init4_0 rfl ?_
  refine G_aload_nN 1 dr_cE_RuntimeException_init4_1 rfl ?_
  refine G_aload_nN 2 dr_cE_RuntimeException_init4_2 rfl ?_
  refine G_iload_n 3 dr_cE_RuntimeException_init4_3 rfl ?_
  refine G_iload 4 dr_cE_RuntimeException_init4_4 rfl ?_
  refine Gw_callI (As := [.null, .null, .int 0, .int 0]) (gV_ok D I) (cp_671400_Exception_init l hl0 D I P671389 F671390 q671391 p671392 p671393 hmq671391 heq671391 bp671393) dr_cE_RuntimeException_init4_6 ⟨wr_9_116, wr_1_24, wr_9_118, by decide, rfl, (Nat.le_of_ble_eq_true rfl), (Nat.le_of_ble_eq_true rfl)⟩ wr_9_117 rfl (show 0 + 0 ≤ 0 by first | omega | decide) (show 0 + 0 ≤ 0 by first | omega | decide) (Nat.le_of_ble_eq_true rfl) (fun r671548 w671549 dc671545 ds671546 hp671547 => ?_)
  obtain ⟨F671550, rfl, rfl, hfr671552, he671553, hdc, hds⟩ := hp671547
  have hfr671554 : rFr [q671391] P671389 F671390 F671550 := rFr_call (rSub_rf (P := P671389)) (rFr_rf (W := []) (P := P671389) (F := F671390)) hfr671552 (fun b hb hn => ⟨nm_n, (nm_c (fun e => hn (e ▸ List.mem_cons_self)) nm_n)⟩)
  change G _ _ _ _ _ _ _ _ _ _ _
  refine G_widen (cs' := 0) (sl' := 0) (by omega) (by omega) ?_
  exact G_vretA dr_cE_RuntimeException_init4_9 rfl (Nat.le_of_ble_eq_true rfl) (Nat.le_of_ble_eq_true rfl) ⟨F671550, rfl, rfl, hfr671554, he671553, (Nat.le_of_ble_eq_true rfl), (Nat.le_of_ble_eq_true rfl)⟩
abbrev ky_671388_Wrong_init : gKey := (cX16_init, 2, "SpillForgeModel$Wrong", none, [], "<init>", fun _ _ => True)
def pp_671388_Wrong_init (D : va_G) (I : FieldType → ClassId) (P671382 : List Nat) (F671383 : Nat → va_E) (q671384 : Nat) (p671385 : Int32) (p671386 : Int32) (p671387 : Int32) : Option Value → va_W → Nat → Nat → Prop := fun r w dc ds => ∃ (F671573 : Nat → va_E), r = none ∧ w = va_pl P671382 F671573 ∧ rFr [q671384] P671382 F671383 F671573 ∧ F671573 q671384 = .inr (21, [.null, .null, .null, .null, .null, .int p671386, .int p671385]) ∧ dc ≤ 0 ∧ ds ≤ 0
set_option maxRecDepth 100000 in
set_option maxHeartbeats 4000000 in
theorem cp_671388_Wrong_init (l : Launch) (hl0 : l.stackTraces = false) (D : va_G) (I : FieldType → ClassId) (P671382 : List Nat) (F671383 : Nat → va_E) (q671384 : Nat) (p671385 : Int32) (p671386 : Int32) (p671387 : Int32) (hmq671384 : q671384 ∈ P671382) (heq671384 : F671383 q671384 = .inr (21, [.null, .null, .null, .null, .null, .int p671386, .int p671387])) (bp671387 : gB p671387 0 8192) : CtA (gV D I) l yX16_init cX16_init 2 none 4 84 0 0 [.ref q671384, .int p671385] (va_pl P671382 F671383) (pp_671388_Wrong_init D I P671382 F671383 q671384 p671385 p671386 p671387) gNA := by
  refine CtA_of hl0 (by decide) (Nat.le_of_ble_eq_true rfl) ?_
  have bp671385 := gB_any p671385
  have bp671386 := gB_any p671386
  refine G_aload_n 0 dr_cX16_init_0 rfl ?_
  refine G_null dr_cX16_init_1 ?_
  refine G_null dr_cX16_init_2 ?_
  refine G_iconst 0 dr_cX16_init_3 (by decide +kernel) ?_
  refine G_iconst 0 dr_cX16_init_4 (by decide +kernel) ?_
  refine Gw_callI (As := [.null, .null, .int 0, .int 0]) (gV_ok D I) (cp_671394_RuntimeException_init l hl0 D I P671382 F671383 q671384 p671386 p671387 hmq671384 heq671384 bp671387) dr_cX16_init_5 ⟨wr_9_113, wr_1_25, wr_9_115, by decide, rfl, (Nat.le_of_ble_eq_true rfl), (Nat.le_of_ble_eq_true rfl)⟩ wr_9_114 rfl (show 0 + 0 ≤ 0 by first | omega | decide) (show 0 + 0 ≤ 0 by first | omega | decide) (Nat.le_of_ble_eq_true rfl) (fun r671560 w671561 dc671557 ds671558 hp671559 => ?_)
  obtain ⟨F671562, rfl, rfl, hfr671564, he671565, hdc, hds⟩ := hp671559
  have hfr671566 : rFr [q671384] P671382 F671383 F671562 := rFr_call (rSub_rf (P := P671382)) (rFr_rf (W := []) (P := P671382) (F := F671383)) hfr671564 (fun b hb hn => ⟨nm_n, (nm_c (fun e => hn (e ▸ List.mem_cons_self)) nm_n)⟩)
  change G _ _ _ _ _ _ _ _ _ _ _
  refine G_widen (cs' := 0) (sl' := 0) (by omega) (by omega) ?_
  refine G_aload_n 0 dr_cX16_init_8 rfl ?_
  refine G_iload_n 1 dr_cX16_init_9 rfl ?_
  refine Gp_putF 6 hmq671384 he671565 dr_cX16_init_10 (gk_X16 D I) (Nat.le_of_ble_eq_true rfl) wr_9_122 rfl rfl rfl rfl rfl (Nat.le_of_ble_eq_true rfl) (fun F671567 e671568 n671569 => ?_)
  have he671570 : F671567 q671384 = .inr (21, [.null, .null, .null, .null, .null, .int p671386, .int p671385]) := e671568
  have hfr671571 : rFr [q671384] P671382 F671383 F671567 := rFr_put' List.mem_cons_self hfr671566 n671569
  exact G_vretA dr_cX16_init_13 rfl (Nat.le_of_ble_eq_true rfl) (Nat.le_of_ble_eq_true rfl) ⟨F671567, rfl, rfl, hfr671571, he671570, (Nat.le_of_ble_eq_true rfl), (Nat.le_of_ble_eq_true rfl)⟩
abbrev ky_671365_Reader_no : gKey := (cX14_no, 1, "SpillForgeModel$Reader", (some (FieldType.object "SpillForgeModel$Wrong")), [], "no", fun _ _ => True)
def pp_671365_Reader_no (D : va_G) (I : FieldType → ClassId) (P671347 : List Nat) (F671348 : Nat → va_E) (q671349 : Nat) (q671350 : Nat) (p671351 : Int32) (p671352 : Int32) (p671353 : Int32) (p671354 : Int32) (p671355 : Int32) (p671356 : Int32) (qo671357 : Nat) (p671358 : Int32) (p671359 : Int32) (p671360 : Int32) (qo671361 : Nat) (qo671362 : Nat) (p671363 : Int32) (f671364 : Nat → Int32) : Option Value → va_W → Nat → Nat → Prop := fun r w dc ds => ∃ (P671587 : List Nat) (F671588 : Nat → va_E) (q671586 : Nat), r = some (.ref q671586) ∧ w = va_pl P671587 F671588 ∧ rSub P671347 P671587 ∧ rFr [] P671347 F671348 F671588 ∧ F671588 q671349 = .inr (19, [.ref q671350, .int p671351, .int p671352, .int p671353, .int p671354, .int p671355, .int p671356, .ref qo671357, .int p671358, .int p671359, .int p671360, .ref qo671361, .ref qo671362, .int p671363]) ∧ F671588 q671350 = .inl (I .byte, 8192, .inl f671364) ∧ F671588 q671586 = .inr (21, [.null, .null, .null, .null, .null, .int 0, .int p671354]) ∧ q671586 ∈ P671587 ∧ q671586 ∉ P671347 ∧ dc ≤ 1 ∧ ds ≤ 7
set_option maxRecDepth 100000 in
set_option maxHeartbeats 4000000 in
theorem cp_671365_Reader_no (l : Launch) (hl0 : l.stackTraces = false) (D : va_G) (I : FieldType → ClassId) (P671347 : List Nat) (F671348 : Nat → va_E) (q671349 : Nat) (q671350 : Nat) (p671351 : Int32) (p671352 : Int32) (p671353 : Int32) (p671354 : Int32) (p671355 : Int32) (p671356 : Int32) (qo671357 : Nat) (p671358 : Int32) (p671359 : Int32) (p671360 : Int32) (qo671361 : Nat) (qo671362 : Nat) (p671363 : Int32) (f671364 : Nat → Int32) (hmq671349 : q671349 ∈ P671347) (hmq671350 : q671350 ∈ P671347) (heq671349 : F671348 q671349 = .inr (19, [.ref q671350, .int p671351, .int p671352, .int p671353, .int p671354, .int p671355, .int p671356, .ref qo671357, .int p671358, .int p671359, .int p671360, .ref qo671361, .ref qo671362, .int p671363])) (heq671350 : F671348 q671350 = .inl (I .byte, 8192, .inl f671364)) (bp671351 : gB p671351 0 8192) (bp671352 : gB p671352 0 8192) (bp671353 : gB p671353 0 6) (bp671354 : gB p671354 0 8192) (bp671356 : gB p671356 0 6) (bp671358 : gB p671358 (-1) 8192) (bp671359 : gB p671359 0 4) (bp671360 : gB p671360 0 1000000) (bp671363 : gB p671363 0 1000000) (bf671364 : gF f671364 (-128) 127) : CtA (gV D I) l yX14_no cX14_no 1 (some (FieldType.object "SpillForgeModel$Wrong")) 5 105 1 7 [.ref q671349] (va_pl P671347 F671348) (pp_671365_Reader_no D I P671347 F671348 q671349 q671350 p671351 p671352 p671353 p671354 p671355 p671356 qo671357 p671358 p671359 p671360 qo671361 qo671362 p671363 f671364) gNA := by
  refine CtA_of hl0 (by decide) (Nat.le_of_ble_eq_true rfl) ?_
  have bp671355 := gB_any p671355
  refine G_new [.null, .null, .null, .null, .null, .int 0, .int 0] dr_cX14_no_0 (gk_X16 D I) wr_9_101 wr_9_102 wr_1_37 (gfs_X16) (show 0 + 1 ≤ 1 by first | omega | decide) (show 0 + 7 ≤ 7 by first | omega | decide) (fun q671366 => Gp_in (fun P671367 F671368 hq671369 hP671370 e671371 n671372 => ?_))
  refine G_widen (cs' := 1) (sl' := 7) (by omega) (by omega) ?_
  have he671373 : F671368 q671349 = .inr (19, [.ref q671350, .int p671351, .int p671352, .int p671353, .int p671354, .int p671355, .int p671356, .ref qo671357, .int p671358, .int p671359, .int p671360, .ref qo671361, .ref qo671362, .int p671363]) := (n671372 q671349 (fun h => hq671369 (h ▸ hmq671349))).trans heq671349
  have he671374 : F671368 q671350 = .inl (I .byte, 8192, .inl f671364) := (n671372 q671350 (fun h => hq671369 (h ▸ hmq671350))).trans heq671350
  have he671375 : F671368 q671366 = .inr (21, [.null, .null, .null, .null, .null, .int 0, .int 0]) := e671371
  have hm671376 : q671349 ∈ P671367 := (hP671370 q671349).mpr (Or.inl hmq671349)
  have hm671377 : q671350 ∈ P671367 := (hP671370 q671350).mpr (Or.inl hmq671350)
  have hm671378 : q671366 ∈ P671367 := (hP671370 q671366).mpr (Or.inr rfl)
  have hq671379 : q671366 ∉ P671347 := fun z => hq671369 ((rSub_rf (P := P671347)) q671366 z)
  have hfr671380 : rFr [] P671347 F671348 F671368 := rFr_new (rSub_rf (P := P671347)) hq671369 (rFr_rf (W := []) (P := P671347) (F := F671348)) n671372
  have hsb671381 : rSub P671347 P671367 := rSub_new (rSub_rf (P := P671347)) hP671370
  refine G_dup dr_cX14_no_3 rfl ?_
  refine G_aload_n 0 dr_cX14_no_4 rfl ?_
  refine Gp_get 4 hm671376 he671373 dr_cX14_no_5 (gk_X14 D I) (Nat.le_of_ble_eq_true rfl) wr_9_40 rfl ?_
  refine Gw_callI (As := [.int p671354]) (gV_ok D I) (cp_671388_Wrong_init l hl0 D I P671367 F671368 q671366 p671354 0 0 hm671378 he671375 (gB_w (gBl (show Int32.toInt 0 = 0 by decide)) (by decide) (by decide))) dr_cX14_no_8 ⟨wr_9_110, wr_1_37, wr_9_112, by decide, rfl, (Nat.le_of_ble_eq_true rfl), (Nat.le_of_ble_eq_true rfl)⟩ wr_9_111 rfl (show 1 + 0 ≤ 1 by first | omega | decide) (show 7 + 0 ≤ 7 by first | omega | decide) (Nat.le_of_ble_eq_true rfl) (fun r671577 w671578 dc671574 ds671575 hp671576 => ?_)
  obtain ⟨F671579, rfl, rfl, hfr671581, he671582, hdc, hds⟩ := hp671576
  have he671583 : F671579 q671349 = .inr (19, [.ref q671350, .int p671351, .int p671352, .int p671353, .int p671354, .int p671355, .int p671356, .ref qo671357, .int p671358, .int p671359, .int p671360, .ref qo671361, .ref qo671362, .int p671363]) := (hfr671581 q671349 hm671376 (nm_c (fun h => hq671379 (h ▸ hmq671349)) nm_n)).trans he671373
  have he671584 : F671579 q671350 = .inl (I .byte, 8192, .inl f671364) := (hfr671581 q671350 hm671377 (nm_c (fun h => hq671379 (h ▸ hmq671350)) nm_n)).trans he671374
  have hfr671585 : rFr [] P671347 F671348 F671579 := rFr_call hsb671381 hfr671380 hfr671581 (fun b hb hn => ⟨nm_n, (nm_c (fun e => hq671379 (e ▸ hb)) nm_n)⟩)
  change G _ _ _ _ _ _ _ _ _ _ _
  refine G_widen (cs' := 1) (sl' := 7) (by omega) (by omega) ?_
  exact G_aretA (FieldType.object "SpillForgeModel$Wrong") dr_cX14_no_11 rfl (by first | exact Or.inl ⟨_, rfl⟩ | exact Or.inr ⟨_, rfl⟩) (Or.inr ⟨_, rfl⟩) (Nat.le_of_ble_eq_true rfl) (Nat.le_of_ble_eq_true rfl) ⟨P671367, F671579, q671366, rfl, rfl, hsb671381, hfr671585, he671583, he671584, he671582, hm671378, hq671379, (Nat.le_of_ble_eq_true rfl), (Nat.le_of_ble_eq_true rfl)⟩
/- tr_RReader_is: result -/
def tr_RReader_is (bs : List Int32) (a0_kind : Int32) (xt : gTx) (o1 : Int32) : Prop := ∀ R : (Int32) → Prop,
  (a0_kind.toInt = 5 → tr_RString_equals bs xt.2 xt.1 (0 : Int32) → R (0 : Int32)) →
  (a0_kind.toInt = 5 → tr_RString_equals bs xt.2 xt.1 (1 : Int32) → R (1 : Int32)) →
  (a0_kind.toInt ≠ 5 → a0_kind.toInt ≠ 1 → R (0 : Int32)) →
  (a0_kind.toInt ≠ 5 → a0_kind.toInt = 1 → tr_RString_equals bs xt.2 xt.1 (0 : Int32) → R (0 : Int32)) →
  (a0_kind.toInt ≠ 5 → a0_kind.toInt = 1 → tr_RString_equals bs xt.2 xt.1 (1 : Int32) → R (1 : Int32)) →
  R o1
abbrev ky_671612_Reader_is : gKey := (cX14_is, 2, "SpillForgeModel$Reader", (some FieldType.boolean), [], "is", fun _ _ => True)
def pp_671612_Reader_is (D : va_G) (I : FieldType → ClassId) (P671589 : List Nat) (F671590 : Nat → va_E) (q671591 : Nat) (q671592 : Nat) (qs671593 : Nat) (qb671594 : Nat) (bs671595 : List Int32) (p671596 : Int32) (p671597 : Int32) (p671598 : Int32) (p671599 : Int32) (p671600 : Int32) (p671601 : Int32) (qo671602 : Nat) (p671603 : Int32) (p671604 : Int32) (p671605 : Int32) (qo671606 : Nat) (qo671607 : Nat) (p671608 : Int32) (f671609 : Nat → Int32) (xt671610 : gTx) : Option Value → va_W → Nat → Nat → Prop := fun r w dc ds => ∃ (o671667 : Int32), r = some (.int o671667) ∧ w = va_pl P671589 F671590 ∧ dc ≤ 0 ∧ ds ≤ 0 ∧ gB o671667 0 1 ∧ isK p671598 o671667 ∧ tr_RReader_is bs671595 p671598 xt671610 o671667
set_option maxRecDepth 100000 in
set_option maxHeartbeats 4000000 in
theorem cp_671612_Reader_is (l : Launch) (hl0 : l.stackTraces = false) (D : va_G) (I : FieldType → ClassId) (P671589 : List Nat) (F671590 : Nat → va_E) (q671591 : Nat) (q671592 : Nat) (qs671593 : Nat) (qb671594 : Nat) (bs671595 : List Int32) (p671596 : Int32) (p671597 : Int32) (p671598 : Int32) (p671599 : Int32) (p671600 : Int32) (p671601 : Int32) (qo671602 : Nat) (p671603 : Int32) (p671604 : Int32) (p671605 : Int32) (qo671606 : Nat) (qo671607 : Nat) (p671608 : Int32) (f671609 : Nat → Int32) (xt671610 : gTx) (hmq671591 : q671591 ∈ P671589) (hmq671592 : q671592 ∈ P671589) (heq671591 : F671590 q671591 = .inr (19, [.ref q671592, .int p671596, .int p671597, .int p671598, .int p671599, .int p671600, .int p671601, .ref qo671602, .int p671603, .int p671604, .int p671605, .ref qo671606, .ref qo671607, .int p671608])) (heq671592 : F671590 q671592 = .inl (I .byte, 8192, .inl f671609)) (hbs671595 : ∀ A s H, (gV D I).2.2.2.1 A s H → gSC qs671593 qb671594 bs671595 A s H) (nbs671595 : (bs671595.length : Int) ≤ 65535) (lbs671595 : gLB bs671595) (bp671596 : gB p671596 0 8192) (bp671597 : gB p671597 0 8192) (bp671598 : gB p671598 0 6) (bp671599 : gB p671599 0 8192) (bp671601 : gB p671601 0 6) (bp671603 : gB p671603 (-1) 8192) (bp671604 : gB p671604 0 4) (bp671605 : gB p671605 0 1000000) (bp671608 : gB p671608 0 1000000) (bf671609 : gF f671609 (-128) 127) (x671611 : tP I P671589 F671590 p671598 qo671602 qo671607 qo671606 xt671610) : CtA (gV D I) l yX14_is cX14_is 2 (some FieldType.boolean) 2 44 0 0 [.ref q671591, .ref qs671593] (va_pl P671589 F671590) (pp_671612_Reader_is D I P671589 F671590 q671591 q671592 qs671593 qb671594 bs671595 p671596 p671597 p671598 p671599 p671600 p671601 qo671602 p671603 p671604 p671605 qo671606 qo671607 p671608 f671609 xt671610) gNA := by
  refine CtA_of hl0 (by decide) (Nat.le_of_ble_eq_true rfl) ?_
  have bp671600 := gB_any p671600
  refine G_aload_n 0 dr_cX14_is_0 rfl ?_
  refine Gp_get 3 hmq671591 heq671591 dr_cX14_is_1 (gk_X14 D I) (Nat.le_of_ble_eq_true rfl) wr_9_39 rfl ?_
  refine G_iconst 5 dr_cX14_is_4 (by decide +kernel) ?_
  refine G_icmp_eq 16 dr_cX14_is_5 (by decide +kernel) (fun hc671613 => ?_) (fun hc671613 => ?_)
  · have r671614 : p671598.toInt = 5 := gj_eq hc671613 (show Int32.toInt 5 = 5 by decide)
    have bp671598' : gB p671598 5 5 := ⟨by omega, by omega⟩
    refine G_aload_n 0 dr_cX14_is_16 rfl ?_
    refine Gp_get 7 hmq671591 heq671591 dr_cX14_is_17 (gk_X14 D I) (Nat.le_of_ble_eq_true rfl) wr_9_43 rfl ?_
    obtain ⟨q671615, p671616, p671617, hm671618, he671619, hm671620, he671621, bq671615, x671622, bp671617, hg671623, hg671624⟩ := x671611.2 (by omega)
    have bp671616 := gB_any p671616
    refine G_aload_n 1 dr_cX14_is_20 rfl ?_
    refine Gw_callV (As := [.ref qs671593]) (gV_ok D I) (cp_657282_String_equals l hl0 D I P671589 F671590 qo671602 q671615 qs671593 qb671594 bs671595 p671616 p671617 xt671610.2 xt671610.1 hm671618 hm671620 he671619 he671621 hbs671595 nbs671595 lbs671595 bp671617 bq671615 (by have qa0 : Int32.toInt 0 = 0 := (by decide); omega)) dr_cX14_is_21 ⟨wr_9_145, wr_1_21, wr_9_148, by decide, rfl, (Nat.le_of_ble_eq_true rfl), (Nat.le_of_ble_eq_true rfl)⟩ wr_9_146 wr_9_147 hm671618 he671619 rfl (show 0 + 0 ≤ 0 by first | omega | decide) (show 0 + 0 ≤ 0 by first | omega | decide) (Nat.le_of_ble_eq_true rfl) (fun r671628 w671629 dc671625 ds671626 hp671627 => ?_) (fun _ _ _ _ _ z => z.elim)
    rcases hp671627 with ⟨o671630, rfl, rfl, hdc, hds, r671631, r671632, r671633⟩ | ⟨o671634, rfl, rfl, hdc, hds, r671635, r671636, r671637⟩
    · change G _ _ _ _ _ _ _ (.int 0 :: _) _ _ _
      refine G_widen (cs' := 0) (sl' := 0) (by omega) (by omega) ?_
      refine G_if_eq 31 dr_cX14_is_24 (by decide +kernel) (fun _ => ?_) (fun hc => absurd hc (by decide))
      refine G_iconst 0 dr_cX14_is_31 (by decide +kernel) ?_
      exact G_zretA FieldType.boolean dr_cX14_is_32 rfl rfl (Nat.le_of_ble_eq_true rfl) (Nat.le_of_ble_eq_true rfl) ⟨0, rfl, rfl, (Nat.le_of_ble_eq_true rfl), (Nat.le_of_ble_eq_true rfl), (gB_w (gBl (show Int32.toInt 0 = 0 by decide)) (by decide) (by decide)), (Or.inl (by decide)), (fun R c1 c2 c3 c4 c5 => c1 r671614 r671633)⟩
    · change G _ _ _ _ _ _ _ (.int 1 :: _) _ _ _
      refine G_widen (cs' := 0) (sl' := 0) (by omega) (by omega) ?_
      refine G_if_eq 31 dr_cX14_is_24 (by decide +kernel) (fun hc => absurd hc (by decide)) (fun _ => ?_)
      refine G_iconst 1 dr_cX14_is_27 (by decide +kernel) ?_
      refine G_goto 32 dr_cX14_is_28 (by decide +kernel) ?_
      exact G_zretA FieldType.boolean dr_cX14_is_32 rfl rfl (Nat.le_of_ble_eq_true rfl) (Nat.le_of_ble_eq_true rfl) ⟨1, rfl, rfl, (Nat.le_of_ble_eq_true rfl), (Nat.le_of_ble_eq_true rfl), (gB_w (gBl (show Int32.toInt 1 = 1 by decide)) (by decide) (by decide)), (Or.inr (by omega)), (fun R c1 c2 c3 c4 c5 => c2 r671614 r671637)⟩
  · have r671639 : p671598.toInt ≠ 5 := gj_neq hc671613 (show Int32.toInt 5 = 5 by decide)
    refine G_aload_n 0 dr_cX14_is_8 rfl ?_
    refine Gp_get 3 hmq671591 heq671591 dr_cX14_is_9 (gk_X14 D I) (Nat.le_of_ble_eq_true rfl) wr_9_39 rfl ?_
    refine G_iconst 1 dr_cX14_is_12 (by decide +kernel) ?_
    refine G_icmp_ne 31 dr_cX14_is_13 (by decide +kernel) (fun hc671640 => ?_) (fun hc671640 => ?_)
    · have r671641 : p671598.toInt ≠ 1 := gj_neq hc671640 (show Int32.toInt 1 = 1 by decide)
      refine G_iconst 0 dr_cX14_is_31 (by decide +kernel) ?_
      exact G_zretA FieldType.boolean dr_cX14_is_32 rfl rfl (Nat.le_of_ble_eq_true rfl) (Nat.le_of_ble_eq_true rfl) ⟨0, rfl, rfl, (Nat.le_of_ble_eq_true rfl), (Nat.le_of_ble_eq_true rfl), (gB_w (gBl (show Int32.toInt 0 = 0 by decide)) (by decide) (by decide)), (Or.inl (by decide)), (fun R c1 c2 c3 c4 c5 => c3 r671639 r671641)⟩
    · have r671642 : p671598.toInt = 1 := gj_eq hc671640 (show Int32.toInt 1 = 1 by decide)
      have bp671598' : gB p671598 1 1 := ⟨by omega, by omega⟩
      refine G_aload_n 0 dr_cX14_is_16 rfl ?_
      refine Gp_get 7 hmq671591 heq671591 dr_cX14_is_17 (gk_X14 D I) (Nat.le_of_ble_eq_true rfl) wr_9_43 rfl ?_
      obtain ⟨q671643, p671644, p671645, hm671646, he671647, hm671648, he671649, bq671643, x671650, bp671645, hg671651, hg671652⟩ := x671611.1 (by omega)
      have bp671644 := gB_any p671644
      refine G_aload_n 1 dr_cX14_is_20 rfl ?_
      refine Gw_callV (As := [.ref qs671593]) (gV_ok D I) (cp_657282_String_equals l hl0 D I P671589 F671590 qo671602 q671643 qs671593 qb671594 bs671595 p671644 p671645 xt671610.2 xt671610.1 hm671646 hm671648 he671647 he671649 hbs671595 nbs671595 lbs671595 bp671645 bq671643 (by have qa0 : Int32.toInt 0 = 0 := (by decide); omega)) dr_cX14_is_21 ⟨wr_9_145, wr_1_21, wr_9_148, by decide, rfl, (Nat.le_of_ble_eq_true rfl), (Nat.le_of_ble_eq_true rfl)⟩ wr_9_146 wr_9_147 hm671646 he671647 rfl (show 0 + 0 ≤ 0 by first | omega | decide) (show 0 + 0 ≤ 0 by first | omega | decide) (Nat.le_of_ble_eq_true rfl) (fun r671656 w671657 dc671653 ds671654 hp671655 => ?_) (fun _ _ _ _ _ z => z.elim)
      rcases hp671655 with ⟨o671658, rfl, rfl, hdc, hds, r671659, r671660, r671661⟩ | ⟨o671662, rfl, rfl, hdc, hds, r671663, r671664, r671665⟩
      · change G _ _ _ _ _ _ _ (.int 0 :: _) _ _ _
        refine G_widen (cs' := 0) (sl' := 0) (by omega) (by omega) ?_
        refine G_if_eq 31 dr_cX14_is_24 (by decide +kernel) (fun _ => ?_) (fun hc => absurd hc (by decide))
        refine G_iconst 0 dr_cX14_is_31 (by decide +kernel) ?_
        exact G_zretA FieldType.boolean dr_cX14_is_32 rfl rfl (Nat.le_of_ble_eq_true rfl) (Nat.le_of_ble_eq_true rfl) ⟨0, rfl, rfl, (Nat.le_of_ble_eq_true rfl), (Nat.le_of_ble_eq_true rfl), (gB_w (gBl (show Int32.toInt 0 = 0 by decide)) (by decide) (by decide)), (Or.inl (by decide)), (fun R c1 c2 c3 c4 c5 => c4 r671639 r671642 r671661)⟩
      · change G _ _ _ _ _ _ _ (.int 1 :: _) _ _ _
        refine G_widen (cs' := 0) (sl' := 0) (by omega) (by omega) ?_
        refine G_if_eq 31 dr_cX14_is_24 (by decide +kernel) (fun hc => absurd hc (by decide)) (fun _ => ?_)
        refine G_iconst 1 dr_cX14_is_27 (by decide +kernel) ?_
        refine G_goto 32 dr_cX14_is_28 (by decide +kernel) ?_
        exact G_zretA FieldType.boolean dr_cX14_is_32 rfl rfl (Nat.le_of_ble_eq_true rfl) (Nat.le_of_ble_eq_true rfl) ⟨1, rfl, rfl, (Nat.le_of_ble_eq_true rfl), (Nat.le_of_ble_eq_true rfl), (gB_w (gBl (show Int32.toInt 1 = 1 by decide)) (by decide) (by decide)), (Or.inr (by omega)), (fun R c1 c2 c3 c4 c5 => c5 r671639 r671642 r671665)⟩
/- tr_RReader_want: a.0...at, a.0...kind, a.0...place, a.0...value -/
def tr_RReader_want (bs : List Int32) (a0_n : Int32) (a0_at : Int32) (a0_kind : Int32) (a0_value : Int32) (a0_t_v : Nat → Int32) (xt : gTx) (o1 : Int32) (o2 : Int32) (o3 : Int32) (o4 : Int32) (o5 : gTx) : Prop := ∀ R : (Int32) → (Int32) → (Int32) → (Int32) → (gTx) → Prop,
  (∀ (x1 : Int32) (x2 : gTx) (x3 : Int32) (x4 : Int32) (x5 : Int32) (x6 : Int32), gB x1 0 1 → tr_RReader_is bs a0_kind xt x1 → x1.toInt ≠ 0 → gB x3 0 8192 → gB x4 0 6 → gB x5 0 8192 → tr_RReader_next a0_n a0_at a0_kind a0_value a0_t_v x3 x4 x5 x6 x2 → R x3 x4 x5 x6 x2) →
  R o1 o2 o3 o4 o5
/- tx_RReader_want: throws -/
def tx_RReader_want (bs : List Int32) (a0_kind : Int32) (xt : gTx) : Prop := ∀ R : Prop,
  (∀ (x1 : Int32), gB x1 0 1 → tr_RReader_is bs a0_kind xt x1 → x1.toInt = 0 → R) →
  R
abbrev ky_671694_Reader_want : gKey := (cX14_want, 2, "SpillForgeModel$Reader", none, [], "want", fun _ _ => True)
def pp_671694_Reader_want (D : va_G) (I : FieldType → ClassId) (P671668 : List Nat) (F671669 : Nat → va_E) (q671670 : Nat) (q671671 : Nat) (qs671672 : Nat) (qb671673 : Nat) (bs671674 : List Int32) (p671675 : Int32) (p671676 : Int32) (p671677 : Int32) (p671678 : Int32) (p671679 : Int32) (p671680 : Int32) (qo671681 : Nat) (p671682 : Int32) (p671683 : Int32) (p671684 : Int32) (qo671685 : Nat) (qo671686 : Nat) (p671687 : Int32) (f671688 : Nat → Int32) (xt671689 : gTx) : Option Value → va_W → Nat → Nat → Prop := fun r w dc ds => ∃ (P671759 : List Nat) (F671760 : Nat → va_E) (o671754 : Int32) (o671755 : Int32) (o671756 : Int32) (o671757 : Int32) (q671758 : Nat) (xt671761 : gTx), r = none ∧ w = va_pl P671759 F671760 ∧ rSub P671668 P671759 ∧ rFr [q671670] P671668 F671669 F671760 ∧ F671760 q671670 = .inr (19, [.ref q671671, .int p671675, .int o671754, .int o671755, .int o671756, .int o671757, .int p671677, .ref q671758, .int p671682, .int p671683, .int p671684, .ref qo671685, .ref qo671686, .int p671687]) ∧ F671760 q671671 = .inl (I .byte, 8192, .inl f671688) ∧ dc ≤ (16 * (o671754.toInt - p671676.toInt)).toNat ∧ ds ≤ (160 * (o671754.toInt - p671676.toInt)).toNat ∧ gB o671754 0 8192 ∧ gB o671755 0 6 ∧ gB o671756 0 8192 ∧ p671676.toInt ≤ o671754.toInt ∧ prP o671755 p671676 o671754 ∧ o671754.toInt ≤ p671675.toInt ∧ tP I P671759 F671760 o671755 q671758 qo671686 qo671685 xt671761 ∧ vP o671755 o671757 ∧ nzK p671677 ∧ tr_RReader_want bs671674 p671675 p671676 p671677 p671679 f671688 xt671689 o671754 o671755 o671756 o671757 xt671761
def xp_671694_Reader_want (D : va_G) (I : FieldType → ClassId) (P671668 : List Nat) (F671669 : Nat → va_E) (q671670 : Nat) (q671671 : Nat) (qs671672 : Nat) (qb671673 : Nat) (bs671674 : List Int32) (p671675 : Int32) (p671676 : Int32) (p671677 : Int32) (p671678 : Int32) (p671679 : Int32) (p671680 : Int32) (qo671681 : Nat) (p671682 : Int32) (p671683 : Int32) (p671684 : Int32) (qo671685 : Nat) (qo671686 : Nat) (p671687 : Int32) (f671688 : Nat → Int32) (xt671689 : gTx) : String → Nat → va_W → Nat → Nat → Prop := fun E q w dc ds => ∃ (P671763 : List Nat) (F671762 : Nat → va_E), E = "SpillForgeModel$Wrong" ∧ w = va_pl P671763 F671762 ∧ rSub P671668 P671763 ∧ rFr [] P671668 F671669 F671762 ∧ q ∈ P671763 ∧ q ∉ P671668 ∧ wrF F671762 q ∧ dc ≤ (16 * (p671675.toInt - p671676.toInt)).toNat + 1 ∧ ds ≤ (160 * (p671675.toInt - p671676.toInt)).toNat + 7 ∧ tx_RReader_want bs671674 p671677 xt671689
set_option maxRecDepth 100000 in
set_option maxHeartbeats 4000000 in
theorem cp_671694_Reader_want (l : Launch) (hl0 : l.stackTraces = false) (D : va_G) (I : FieldType → ClassId) (P671668 : List Nat) (F671669 : Nat → va_E) (q671670 : Nat) (q671671 : Nat) (qs671672 : Nat) (qb671673 : Nat) (bs671674 : List Int32) (p671675 : Int32) (p671676 : Int32) (p671677 : Int32) (p671678 : Int32) (p671679 : Int32) (p671680 : Int32) (qo671681 : Nat) (p671682 : Int32) (p671683 : Int32) (p671684 : Int32) (qo671685 : Nat) (qo671686 : Nat) (p671687 : Int32) (f671688 : Nat → Int32) (xt671689 : gTx) (hmq671670 : q671670 ∈ P671668) (hmq671671 : q671671 ∈ P671668) (heq671670 : F671669 q671670 = .inr (19, [.ref q671671, .int p671675, .int p671676, .int p671677, .int p671678, .int p671679, .int p671680, .ref qo671681, .int p671682, .int p671683, .int p671684, .ref qo671685, .ref qo671686, .int p671687])) (heq671671 : F671669 q671671 = .inl (I .byte, 8192, .inl f671688)) (hbs671674 : ∀ A s H, (gV D I).2.2.2.1 A s H → gSC qs671672 qb671673 bs671674 A s H) (nbs671674 : (bs671674.length : Int) ≤ 65535) (lbs671674 : gLB bs671674) (bp671675 : gB p671675 0 8192) (bp671676 : gB p671676 0 8192) (bp671677 : gB p671677 0 6) (bp671678 : gB p671678 0 8192) (bp671680 : gB p671680 0 6) (bp671682 : gB p671682 (-1) 8192) (bp671683 : gB p671683 0 4) (bp671684 : gB p671684 0 1000000) (bp671687 : gB p671687 0 1000000) (bf671688 : gF f671688 (-128) 127) (x671690 : p671676.toInt ≤ p671675.toInt) (x671691 : qo671686 ∈ P671668) (x671692 : qo671685 ∈ P671668) (x671693 : tP I P671668 F671669 p671677 qo671681 qo671686 qo671685 xt671689) : CtA (gV D I) l yX14_want cX14_want 2 none 8 177 ((16 * (p671675.toInt - p671676.toInt)).toNat + 1) ((160 * (p671675.toInt - p671676.toInt)).toNat + 7) [.ref q671670, .ref qs671672] (va_pl P671668 F671669) (pp_671694_Reader_want D I P671668 F671669 q671670 q671671 qs671672 qb671673 bs671674 p671675 p671676 p671677 p671678 p671679 p671680 qo671681 p671682 p671683 p671684 qo671685 qo671686 p671687 f671688 xt671689) (xp_671694_Reader_want D I P671668 F671669 q671670 q671671 qs671672 qb671673 bs671674 p671675 p671676 p671677 p671678 p671679 p671680 qo671681 p671682 p671683 p671684 qo671685 qo671686 p671687 f671688 xt671689) := by
  refine CtA_of hl0 (by decide) (Nat.le_of_ble_eq_true rfl) ?_
  have bp671679 := gB_any p671679
  refine G_aload_n 0 dr_cX14_want_0 rfl ?_
  refine G_aload_n 1 dr_cX14_want_1 rfl ?_
  refine Gw_callV (As := [.ref qs671672]) (gV_ok D I) (cp_671612_Reader_is l hl0 D I P671668 F671669 q671670 q671671 qs671672 qb671673 bs671674 p671675 p671676 p671677 p671678 p671679 p671680 qo671681 p671682 p671683 p671684 qo671685 qo671686 p671687 f671688 xt671689 hmq671670 hmq671671 heq671670 heq671671 hbs671674 nbs671674 lbs671674 bp671675 bp671676 bp671677 bp671678 bp671680 bp671682 bp671683 bp671684 bp671687 bf671688 x671693) dr_cX14_want_2 ⟨wr_9_141, wr_1_32, wr_9_144, by decide, rfl, (Nat.le_of_ble_eq_true rfl), (Nat.le_of_ble_eq_true rfl)⟩ wr_9_143 wr_p_84 hmq671670 heq671670 rfl (show 0 + 0 ≤ ((16 * (p671675.toInt - p671676.toInt)).toNat + 1) by first | omega | decide) (show 0 + 0 ≤ ((160 * (p671675.toInt - p671676.toInt)).toNat + 7) by first | omega | decide) (Nat.le_of_ble_eq_true rfl) (fun r671698 w671699 dc671695 ds671696 hp671697 => ?_) (fun _ _ _ _ _ z => z.elim)
  obtain ⟨o671700, rfl, rfl, hdc, hds, bo671700, x671701, ht671702⟩ := hp671697
  change G _ _ _ _ _ _ _ (.int o671700 :: _) _ _ _
  refine G_widen (cs' := 0) (sl' := 0) (by omega) (by omega) ?_
  refine G_if_ne 13 dr_cX14_want_5 (by decide +kernel) (fun hc671703 => ?_) (fun hc671703 => ?_)
  · have r671704 : o671700.toInt ≠ 0 := gj_neq hc671703 (show Int32.toInt 0 = 0 by decide)
    have bo671700' : gB o671700 1 1 := ⟨by omega, by omega⟩
    refine G_aload_n 0 dr_cX14_want_13 rfl ?_
    refine Gw_callV (As := []) (gV_ok D I) (cp_669625_Reader_next l hl0 D I P671668 F671669 q671670 q671671 p671675 p671676 p671677 p671678 p671679 p671680 qo671681 p671682 p671683 p671684 qo671685 qo671686 p671687 f671688 hmq671670 hmq671671 heq671670 heq671671 bp671675 bp671676 bp671677 bp671678 bp671680 bp671682 bp671683 bp671684 bp671687 bf671688 (by omega) x671691 x671692) dr_cX14_want_14 ⟨wr_7_215, wr_1_32, wr_7_218, by decide, rfl, (Nat.le_of_ble_eq_true rfl), (Nat.le_of_ble_eq_true rfl)⟩ wr_7_217 wr_p_75 hmq671670 heq671670 rfl (show 0 + ((16 * (p671675.toInt - p671676.toInt)).toNat) ≤ ((16 * (p671675.toInt - p671676.toInt)).toNat + 1) by first | omega | decide) (show 0 + ((160 * (p671675.toInt - p671676.toInt)).toNat) ≤ ((160 * (p671675.toInt - p671676.toInt)).toNat + 7) by first | omega | decide) (Nat.le_of_ble_eq_true rfl) (fun r671708 w671709 dc671705 ds671706 hp671707 => ?_) (fun _ _ _ _ _ z => z.elim)
    obtain ⟨P671722, F671723, o671710, o671711, o671712, o671713, q671714, xt671721, rfl, rfl, hsb671724, hfr671725, he671726, he671727, hdc, hds, bo671710, bo671711, bo671712, x671715, x671716, x671717, x671718, x671719, ht671720⟩ := hp671707
    have hm671728 : q671670 ∈ P671722 := hsb671724 q671670 hmq671670
    have hm671729 : q671671 ∈ P671722 := hsb671724 q671671 hmq671671
    have hsb671730 : rSub P671668 P671722 := rSub_tr (rSub_rf (P := P671668)) hsb671724
    have hfr671731 : rFr [q671670] P671668 F671669 F671723 := rFr_call (rSub_rf (P := P671668)) (rFr_rf (W := []) (P := P671668) (F := F671669)) hfr671725 (fun b hb hn => ⟨nm_n, (nm_c (fun e => hn (e ▸ List.mem_cons_self)) nm_n)⟩)
    have bo671713 := gB_any o671713
    change G _ _ _ _ _ _ _ _ _ _ _
    refine G_widen (cs' := (16 * (o671710.toInt - p671676.toInt)).toNat) (sl' := (160 * (o671710.toInt - p671676.toInt)).toNat) (by omega) (by omega) ?_
    exact G_vretA dr_cX14_want_17 rfl (show (16 * (o671710.toInt - p671676.toInt)).toNat ≤ ((16 * (p671675.toInt - p671676.toInt)).toNat + 1) by omega) (show (160 * (o671710.toInt - p671676.toInt)).toNat ≤ ((160 * (p671675.toInt - p671676.toInt)).toNat + 7) by omega) ⟨P671722, F671723, o671710, o671711, o671712, o671713, q671714, xt671721, rfl, rfl, hsb671730, hfr671731, he671726, he671727, (by omega), (by omega), bo671710, bo671711, bo671712, (by omega), x671716, (by omega), x671718, x671719, (isK_1 x671701 (by omega)), (fun R c1 => c1 o671700 xt671721 o671710 o671711 o671712 o671713 bo671700 ht671702 r671704 bo671710 bo671711 bo671712 ht671720)⟩
  · have r671732 : o671700.toInt = 0 := gj_eq hc671703 (show Int32.toInt 0 = 0 by decide)
    have bo671700' : gB o671700 0 0 := ⟨by omega, by omega⟩
    refine G_aload_n 0 dr_cX14_want_8 rfl ?_
    refine Gw_callV (As := []) (gV_ok D I) (cp_671365_Reader_no l hl0 D I P671668 F671669 q671670 q671671 p671675 p671676 p671677 p671678 p671679 p671680 qo671681 p671682 p671683 p671684 qo671685 qo671686 p671687 f671688 hmq671670 hmq671671 heq671670 heq671671 bp671675 bp671676 bp671677 bp671678 bp671680 bp671682 bp671683 bp671684 bp671687 bf671688) dr_cX14_want_9 ⟨wr_9_97, wr_1_32, wr_9_100, by decide, rfl, (Nat.le_of_ble_eq_true rfl), (Nat.le_of_ble_eq_true rfl)⟩ wr_9_99 wr_p_81 hmq671670 heq671670 rfl (show 0 + 1 ≤ ((16 * (p671675.toInt - p671676.toInt)).toNat + 1) by first | omega | decide) (show 0 + 7 ≤ ((160 * (p671675.toInt - p671676.toInt)).toNat + 7) by first | omega | decide) (Nat.le_of_ble_eq_true rfl) (fun r671736 w671737 dc671733 ds671734 hp671735 => ?_) (fun _ _ _ _ _ z => z.elim)
    obtain ⟨P671739, F671740, q671738, rfl, rfl, hsb671741, hfr671742, he671743, he671744, he671745, hm671746, hq671747, hdc, hds⟩ := hp671735
    have hm671748 : q671670 ∈ P671739 := hsb671741 q671670 hmq671670
    have hm671749 : q671671 ∈ P671739 := hsb671741 q671671 hmq671671
    have hq671750 : q671738 ∉ P671668 := fun z => hq671747 ((rSub_rf (P := P671668)) q671738 z)
    have hsb671751 : rSub P671668 P671739 := rSub_tr (rSub_rf (P := P671668)) hsb671741
    have hfr671752 : rFr [] P671668 F671669 F671740 := rFr_call (rSub_rf (P := P671668)) (rFr_rf (W := []) (P := P671668) (F := F671669)) hfr671742 (fun b hb hn => ⟨nm_n, nm_n⟩)
    have tp671753 : tP I P671739 F671740 p671677 qo671681 qo671686 qo671685 xt671689 := tP_new x671693 hsb671741 (fun b hb => hfr671742 b hb (fun z => by cases z)) (Or.inl rfl) (Or.inl rfl)
    change G _ _ _ _ _ _ _ (.ref q671738 :: _) _ _ _
    refine G_widen (cs' := 1) (sl' := 7) (by omega) (by omega) ?_
    exact Gp_athrow hm671746 he671745 rfl dr_cX14_want_12 (GT_outA rfl (show 1 ≤ ((16 * (p671675.toInt - p671676.toInt)).toNat + 1) by omega) (show 7 ≤ ((160 * (p671675.toInt - p671676.toInt)).toNat + 7) by omega) ⟨P671739, F671740, rfl, rfl, hsb671751, hfr671752, hm671746, hq671750, ⟨_, _, _, _, _, _, _, he671745, by omega⟩, (by omega), (by omega), (fun R c1 => c1 o671700 bo671700 ht671702 r671732)⟩)
/- tr_RReader_want2: a.0...at, a.0...kind, a.0...place, a.0...value -/
def tr_RReader_want2 (a1 : Int32) (a0_n : Int32) (a0_at : Int32) (a0_kind : Int32) (a0_value : Int32) (a0_t_v : Nat → Int32) (o1 : Int32) (o2 : Int32) (o3 : Int32) (o4 : Int32) (o5 : gTx) : Prop := ∀ R : (Int32) → (Int32) → (Int32) → (Int32) → (gTx) → Prop,
  (∀ (x1 : gTx) (x2 : Int32) (x3 : Int32) (x4 : Int32) (x5 : Int32), a0_kind.toInt = a1.toInt → gB x2 0 8192 → gB x3 0 6 → gB x4 0 8192 → tr_RReader_next a0_n a0_at a0_kind a0_value a0_t_v x2 x3 x4 x5 x1 → R x2 x3 x4 x5 x1) →
  R o1 o2 o3 o4 o5
/- tx_RReader_want2: throws -/
def tx_RReader_want2 (a1 : Int32) (a0_kind : Int32) : Prop := ∀ R : Prop,
  (a0_kind.toInt ≠ a1.toInt → R) →
  R
abbrev ky_671789_Reader_want : gKey := (cX14_want_, 3, "SpillForgeModel$Reader", (some FieldType.int), [], "want", fun _ _ => True)
def pp_671789_Reader_want (D : va_G) (I : FieldType → ClassId) (P671764 : List Nat) (F671765 : Nat → va_E) (q671766 : Nat) (q671767 : Nat) (p671768 : Int32) (p671769 : Int32) (p671770 : Int32) (p671771 : Int32) (p671772 : Int32) (p671773 : Int32) (p671774 : Int32) (qo671775 : Nat) (p671776 : Int32) (p671777 : Int32) (p671778 : Int32) (qo671779 : Nat) (qo671780 : Nat) (p671781 : Int32) (f671782 : Nat → Int32) (xt671783 : gTx) : Option Value → va_W → Nat → Nat → Prop := fun r w dc ds => ∃ (P671846 : List Nat) (F671847 : Nat → va_E) (o671841 : Int32) (o671842 : Int32) (o671843 : Int32) (o671844 : Int32) (q671845 : Nat) (xt671848 : gTx), r = some (.int p671773) ∧ w = va_pl P671846 F671847 ∧ rSub P671764 P671846 ∧ rFr [q671766] P671764 F671765 F671847 ∧ F671847 q671766 = .inr (19, [.ref q671767, .int p671769, .int o671841, .int o671842, .int o671843, .int o671844, .int p671771, .ref q671845, .int p671776, .int p671777, .int p671778, .ref qo671779, .ref qo671780, .int p671781]) ∧ F671847 q671767 = .inl (I .byte, 8192, .inl f671782) ∧ dc ≤ (16 * (o671841.toInt - p671770.toInt)).toNat ∧ ds ≤ (160 * (o671841.toInt - p671770.toInt)).toNat ∧ gB o671841 0 8192 ∧ gB o671842 0 6 ∧ gB o671843 0 8192 ∧ p671770.toInt ≤ o671841.toInt ∧ prP o671842 p671770 o671841 ∧ o671841.toInt ≤ p671769.toInt ∧ tP I P671846 F671847 o671842 q671845 qo671780 qo671779 xt671848 ∧ vP o671842 o671844 ∧ vP p671768 p671773 ∧ p671771.toInt = p671768.toInt ∧ tr_RReader_want2 p671768 p671769 p671770 p671771 p671773 f671782 o671841 o671842 o671843 o671844 xt671848
def xp_671789_Reader_want (D : va_G) (I : FieldType → ClassId) (P671764 : List Nat) (F671765 : Nat → va_E) (q671766 : Nat) (q671767 : Nat) (p671768 : Int32) (p671769 : Int32) (p671770 : Int32) (p671771 : Int32) (p671772 : Int32) (p671773 : Int32) (p671774 : Int32) (qo671775 : Nat) (p671776 : Int32) (p671777 : Int32) (p671778 : Int32) (qo671779 : Nat) (qo671780 : Nat) (p671781 : Int32) (f671782 : Nat → Int32) (xt671783 : gTx) : String → Nat → va_W → Nat → Nat → Prop := fun E q w dc ds => ∃ (P671850 : List Nat) (F671849 : Nat → va_E), E = "SpillForgeModel$Wrong" ∧ w = va_pl P671850 F671849 ∧ rSub P671764 P671850 ∧ rFr [] P671764 F671765 F671849 ∧ q ∈ P671850 ∧ q ∉ P671764 ∧ wrF F671849 q ∧ dc ≤ (16 * (p671769.toInt - p671770.toInt)).toNat + 1 ∧ ds ≤ (160 * (p671769.toInt - p671770.toInt)).toNat + 7 ∧ tx_RReader_want2 p671768 p671771
set_option maxRecDepth 100000 in
set_option maxHeartbeats 4000000 in
theorem cp_671789_Reader_want (l : Launch) (hl0 : l.stackTraces = false) (D : va_G) (I : FieldType → ClassId) (P671764 : List Nat) (F671765 : Nat → va_E) (q671766 : Nat) (q671767 : Nat) (p671768 : Int32) (p671769 : Int32) (p671770 : Int32) (p671771 : Int32) (p671772 : Int32) (p671773 : Int32) (p671774 : Int32) (qo671775 : Nat) (p671776 : Int32) (p671777 : Int32) (p671778 : Int32) (qo671779 : Nat) (qo671780 : Nat) (p671781 : Int32) (f671782 : Nat → Int32) (xt671783 : gTx) (hmq671766 : q671766 ∈ P671764) (hmq671767 : q671767 ∈ P671764) (heq671766 : F671765 q671766 = .inr (19, [.ref q671767, .int p671769, .int p671770, .int p671771, .int p671772, .int p671773, .int p671774, .ref qo671775, .int p671776, .int p671777, .int p671778, .ref qo671779, .ref qo671780, .int p671781])) (heq671767 : F671765 q671767 = .inl (I .byte, 8192, .inl f671782)) (bp671768 : gB p671768 0 6) (bp671769 : gB p671769 0 8192) (bp671770 : gB p671770 0 8192) (bp671771 : gB p671771 0 6) (bp671772 : gB p671772 0 8192) (bp671774 : gB p671774 0 6) (bp671776 : gB p671776 (-1) 8192) (bp671777 : gB p671777 0 4) (bp671778 : gB p671778 0 1000000) (bp671781 : gB p671781 0 1000000) (bf671782 : gF f671782 (-128) 127) (x671784 : p671770.toInt ≤ p671769.toInt) (x671785 : qo671780 ∈ P671764) (x671786 : qo671779 ∈ P671764) (x671787 : tP I P671764 F671765 p671771 qo671775 qo671780 qo671779 xt671783) (x671788 : vP p671771 p671773) : CtA (gV D I) l yX14_want_ cX14_want_ 3 (some FieldType.int) 8 177 ((16 * (p671769.toInt - p671770.toInt)).toNat + 1) ((160 * (p671769.toInt - p671770.toInt)).toNat + 7) [.ref q671766, .int p671768] (va_pl P671764 F671765) (pp_671789_Reader_want D I P671764 F671765 q671766 q671767 p671768 p671769 p671770 p671771 p671772 p671773 p671774 qo671775 p671776 p671777 p671778 qo671779 qo671780 p671781 f671782 xt671783) (xp_671789_Reader_want D I P671764 F671765 q671766 q671767 p671768 p671769 p671770 p671771 p671772 p671773 p671774 qo671775 p671776 p671777 p671778 qo671779 qo671780 p671781 f671782 xt671783) := by
  refine CtA_of hl0 (by decide) (Nat.le_of_ble_eq_true rfl) ?_
  have bp671773 := gB_any p671773
  refine G_aload_n 0 dr_cX14_want__0 rfl ?_
  refine Gp_get 3 hmq671766 heq671766 dr_cX14_want__1 (gk_X14 D I) (Nat.le_of_ble_eq_true rfl) wr_9_39 rfl ?_
  refine G_iload_n 1 dr_cX14_want__4 rfl ?_
  refine G_icmp_eq 13 dr_cX14_want__5 (by decide +kernel) (fun hc671790 => ?_) (fun hc671790 => ?_)
  · have r671791 : p671771.toInt = p671768.toInt := gC_eq hc671790
    refine G_aload_n 0 dr_cX14_want__13 rfl ?_
    refine Gp_get 5 hmq671766 heq671766 dr_cX14_want__14 (gk_X14 D I) (Nat.le_of_ble_eq_true rfl) wr_9_41 rfl ?_
    refine G_istore_n (L' := [(2, .int p671773), (0, .ref q671766), (1, .int p671768)]) dr_cX14_want__17 (Nat.le_of_ble_eq_true rfl) rfl ?_
    refine G_aload_n 1 dr_cX14_want__18 rfl ?_
    refine Gw_callV (As := []) (gV_ok D I) (cp_669625_Reader_next l hl0 D I P671764 F671765 q671766 q671767 p671769 p671770 p671771 p671772 p671773 p671774 qo671775 p671776 p671777 p671778 qo671779 qo671780 p671781 f671782 hmq671766 hmq671767 heq671766 heq671767 bp671769 bp671770 bp671771 bp671772 bp671774 bp671776 bp671777 bp671778 bp671781 bf671782 (by omega) x671785 x671786) dr_cX14_want__19 ⟨wr_7_215, wr_1_32, wr_7_218, by decide, rfl, (Nat.le_of_ble_eq_true rfl), (Nat.le_of_ble_eq_true rfl)⟩ wr_7_217 wr_p_75 hmq671766 heq671766 rfl (show 0 + ((16 * (p671769.toInt - p671770.toInt)).toNat) ≤ ((16 * (p671769.toInt - p671770.toInt)).toNat + 1) by first | omega | decide) (show 0 + ((160 * (p671769.toInt - p671770.toInt)).toNat) ≤ ((160 * (p671769.toInt - p671770.toInt)).toNat + 7) by first | omega | decide) (Nat.le_of_ble_eq_true rfl) (fun r671795 w671796 dc671792 ds671793 hp671794 => ?_) (fun _ _ _ _ _ z => z.elim)
    obtain ⟨P671809, F671810, o671797, o671798, o671799, o671800, q671801, xt671808, rfl, rfl, hsb671811, hfr671812, he671813, he671814, hdc, hds, bo671797, bo671798, bo671799, x671802, x671803, x671804, x671805, x671806, ht671807⟩ := hp671794
    have hm671815 : q671766 ∈ P671809 := hsb671811 q671766 hmq671766
    have hm671816 : q671767 ∈ P671809 := hsb671811 q671767 hmq671767
    have hsb671817 : rSub P671764 P671809 := rSub_tr (rSub_rf (P := P671764)) hsb671811
    have hfr671818 : rFr [q671766] P671764 F671765 F671810 := rFr_call (rSub_rf (P := P671764)) (rFr_rf (W := []) (P := P671764) (F := F671765)) hfr671812 (fun b hb hn => ⟨nm_n, (nm_c (fun e => hn (e ▸ List.mem_cons_self)) nm_n)⟩)
    have bo671800 := gB_any o671800
    change G _ _ _ _ _ _ _ _ _ _ _
    refine G_widen (cs' := (16 * (o671797.toInt - p671770.toInt)).toNat) (sl' := (160 * (o671797.toInt - p671770.toInt)).toNat) (by omega) (by omega) ?_
    refine G_iload_n 0 dr_cX14_want__22 rfl ?_
    exact G_iretA dr_cX14_want__23 rfl (show (16 * (o671797.toInt - p671770.toInt)).toNat ≤ ((16 * (p671769.toInt - p671770.toInt)).toNat + 1) by omega) (show (160 * (o671797.toInt - p671770.toInt)).toNat ≤ ((160 * (p671769.toInt - p671770.toInt)).toNat + 7) by omega) ⟨P671809, F671810, o671797, o671798, o671799, o671800, q671801, xt671808, rfl, rfl, hsb671817, hfr671818, he671813, he671814, (by omega), (by omega), bo671797, bo671798, bo671799, (by omega), x671803, (by omega), x671805, x671806, (vP_eq x671788 (by omega)), (by omega), (fun R c1 => c1 xt671808 o671797 o671798 o671799 o671800 r671791 bo671797 bo671798 bo671799 ht671807)⟩
  · have r671819 : p671771.toInt ≠ p671768.toInt := gC_ne hc671790
    refine G_aload_n 0 dr_cX14_want__8 rfl ?_
    refine Gw_callV (As := []) (gV_ok D I) (cp_671365_Reader_no l hl0 D I P671764 F671765 q671766 q671767 p671769 p671770 p671771 p671772 p671773 p671774 qo671775 p671776 p671777 p671778 qo671779 qo671780 p671781 f671782 hmq671766 hmq671767 heq671766 heq671767 bp671769 bp671770 bp671771 bp671772 bp671774 bp671776 bp671777 bp671778 bp671781 bf671782) dr_cX14_want__9 ⟨wr_9_97, wr_1_32, wr_9_100, by decide, rfl, (Nat.le_of_ble_eq_true rfl), (Nat.le_of_ble_eq_true rfl)⟩ wr_9_99 wr_p_81 hmq671766 heq671766 rfl (show 0 + 1 ≤ ((16 * (p671769.toInt - p671770.toInt)).toNat + 1) by first | omega | decide) (show 0 + 7 ≤ ((160 * (p671769.toInt - p671770.toInt)).toNat + 7) by first | omega | decide) (Nat.le_of_ble_eq_true rfl) (fun r671823 w671824 dc671820 ds671821 hp671822 => ?_) (fun _ _ _ _ _ z => z.elim)
    obtain ⟨P671826, F671827, q671825, rfl, rfl, hsb671828, hfr671829, he671830, he671831, he671832, hm671833, hq671834, hdc, hds⟩ := hp671822
    have hm671835 : q671766 ∈ P671826 := hsb671828 q671766 hmq671766
    have hm671836 : q671767 ∈ P671826 := hsb671828 q671767 hmq671767
    have hq671837 : q671825 ∉ P671764 := fun z => hq671834 ((rSub_rf (P := P671764)) q671825 z)
    have hsb671838 : rSub P671764 P671826 := rSub_tr (rSub_rf (P := P671764)) hsb671828
    have hfr671839 : rFr [] P671764 F671765 F671827 := rFr_call (rSub_rf (P := P671764)) (rFr_rf (W := []) (P := P671764) (F := F671765)) hfr671829 (fun b hb hn => ⟨nm_n, nm_n⟩)
    have tp671840 : tP I P671826 F671827 p671771 qo671775 qo671780 qo671779 xt671783 := tP_new x671787 hsb671828 (fun b hb => hfr671829 b hb (fun z => by cases z)) (Or.inl rfl) (Or.inl rfl)
    change G _ _ _ _ _ _ _ (.ref q671825 :: _) _ _ _
    refine G_widen (cs' := 1) (sl' := 7) (by omega) (by omega) ?_
    exact Gp_athrow hm671833 he671832 rfl dr_cX14_want__12 (GT_outA rfl (show 1 ≤ ((16 * (p671769.toInt - p671770.toInt)).toNat + 1) by omega) (show 7 ≤ ((160 * (p671769.toInt - p671770.toInt)).toNat + 7) by omega) ⟨P671826, F671827, rfl, rfl, hsb671838, hfr671839, hm671833, hq671837, ⟨_, _, _, _, _, _, _, he671832, by omega⟩, (by omega), (by omega), (fun R c1 => c1 r671819)⟩)
/- tr_RReader_breaks: a.0...rulePlace, a.0...rule -/
def tr_RReader_breaks (a1 : Int32) (a2 : Int32) (a0_rulePlace : Int32) (a0_rule : Int32) (o1 : Int32) (o2 : Int32) : Prop := ∀ R : (Int32) → (Int32) → Prop,
  (a0_rulePlace.toInt < 0 → R a2 a1) →
  (0 ≤ a0_rulePlace.toInt → a2.toInt < a0_rulePlace.toInt → R a2 a1) →
  (0 ≤ a0_rulePlace.toInt → a0_rulePlace.toInt ≤ a2.toInt → a2.toInt ≠ a0_rulePlace.toInt → R a0_rulePlace a0_rule) →
  (0 ≤ a0_rulePlace.toInt → a0_rulePlace.toInt ≤ a2.toInt → a2.toInt = a0_rulePlace.toInt → a0_rule.toInt ≤ a1.toInt → R a0_rulePlace a0_rule) →
  (0 ≤ a0_rulePlace.toInt → a0_rulePlace.toInt ≤ a2.toInt → a2.toInt = a0_rulePlace.toInt → a1.toInt < a0_rule.toInt → R a2 a1) →
  R o1 o2
