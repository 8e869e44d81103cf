theorem dr_cE_Throwable_init4_0 : decode cE_Throwable_init4 0 = .ok (.aload_n 0, 1) := by decide +kernel
theorem dr_cE_Throwable_init4_1 : decode cE_Throwable_init4 1 = .ok (.invokespecial 1, 3) := by decide +kernel
theorem wr_4_220 : (Jvm.Cond.methodLink "java/lang/Throwable" (1 : Nat) ({ cls := "java/lang/Object", name := "<init>", desc := "()V" } : Jvm.MethodName)) ∈ gw := gw_4 220 rfl rfl
theorem dr_cE_Throwable_init4_4 : decode cE_Throwable_init4 4 = .ok (.aload_n 0, 1) := by decide +kernel
theorem dr_cE_Throwable_init4_5 : decode cE_Throwable_init4 5 = .ok (.aload_n 0, 1) := by decide +kernel
theorem dr_cE_Throwable_init4_6 : decode cE_Throwable_init4 6 = .ok (.putfield 7, 3) := by decide +kernel
theorem wr_5_15 : (Jvm.Cond.fieldLink "java/lang/Throwable" (7 : Nat) "java/lang/Throwable" "cause" "Ljava/lang/Throwable;") ∈ gw := gw_5 15 rfl rfl
theorem dr_cE_Throwable_init4_9 : decode cE_Throwable_init4 9 = .ok (.aload_n 0, 1) := by decide +kernel
theorem dr_cE_Throwable_init4_10 : decode cE_Throwable_init4 10 = .ok (.getstatic 13, 3) := by decide +kernel
theorem wr_4_221 : (Jvm.Cond.fieldLink "java/lang/Throwable" (13 : Nat) "java/lang/Throwable" "UNASSIGNED_STACK" "[Ljava/lang/StackTraceElement;") ∈ gw := gw_4 221 rfl rfl
theorem dr_cE_Throwable_init4_13 : decode cE_Throwable_init4 13 = .ok (.putfield 17, 3) := by decide +kernel
theorem wr_5_16 : (Jvm.Cond.fieldLink "java/lang/Throwable" (17 : Nat) "java/lang/Throwable" "stackTrace" "[Ljava/lang/StackTraceElement;") ∈ gw := gw_5 16 rfl rfl
theorem dr_cE_Throwable_init4_16 : decode cE_Throwable_init4 16 = .ok (.aload_n 0, 1) := by decide +kernel
theorem dr_cE_Throwable_init4_17 : decode cE_Throwable_init4 17 = .ok (.getstatic 20, 3) := by decide +kernel
theorem wr_4_223 : (Jvm.Cond.fieldLink "java/lang/Throwable" (20 : Nat) "java/lang/Throwable" "SUPPRESSED_SENTINEL" "Ljava/util/List;") ∈ gw := gw_4 223 rfl rfl
theorem dr_cE_Throwable_init4_20 : decode cE_Throwable_init4 20 = .ok (.putfield 24, 3) := by decide +kernel
theorem wr_5_17 : (Jvm.Cond.fieldLink "java/lang/Throwable" (24 : Nat) "java/lang/Throwable" "suppressedExceptions" "Ljava/util/List;") ∈ gw := gw_5 17 rfl rfl
theorem dr_cE_Throwable_init4_23 : decode cE_Throwable_init4 23 = .ok (.iload 4, 2) := by decide +kernel
theorem dr_cE_Throwable_init4_25 : decode cE_Throwable_init4 25 = .ok (.ifCond .eq 11, 3) := by decide +kernel
theorem dr_cE_Throwable_init4_36 : decode cE_Throwable_init4 36 = .ok (.aload_n 0, 1) := by decide +kernel
theorem dr_cE_Throwable_init4_37 : decode cE_Throwable_init4 37 = .ok (.aconst_null, 1) := by decide +kernel
theorem dr_cE_Throwable_init4_38 : decode cE_Throwable_init4 38 = .ok (.putfield 17, 3) := by decide +kernel
theorem dr_cE_Throwable_init4_41 : decode cE_Throwable_init4 41 = .ok (.aload_n 0, 1) := by decide +kernel
theorem dr_cE_Throwable_init4_42 : decode cE_Throwable_init4 42 = .ok (.aload_n 1, 1) := by decide +kernel
theorem dr_cE_Throwable_init4_43 : decode cE_Throwable_init4 43 = .ok (.putfield 31, 3) := by decide +kernel
theorem wr_5_14 : (Jvm.Cond.fieldLink "java/lang/Throwable" (31 : Nat) "java/lang/Throwable" "detailMessage" "Ljava/lang/String;") ∈ gw := gw_5 14 rfl rfl
theorem dr_cE_Throwable_init4_46 : decode cE_Throwable_init4 46 = .ok (.aload_n 0, 1) := by decide +kernel
theorem dr_cE_Throwable_init4_47 : decode cE_Throwable_init4 47 = .ok (.aload_n 2, 1) := by decide +kernel
theorem dr_cE_Throwable_init4_48 : decode cE_Throwable_init4 48 = .ok (.putfield 7, 3) := by decide +kernel
theorem dr_cE_Throwable_init4_51 : decode cE_Throwable_init4 51 = .ok (.iload_n 3, 1) := by decide +kernel
theorem dr_cE_Throwable_init4_52 : decode cE_Throwable_init4 52 = .ok (.ifCond .ne 8, 3) := by decide +kernel
theorem dr_cE_Throwable_init4_55 : decode cE_Throwable_init4 55 = .ok (.aload_n 0, 1) := by decide +kernel
theorem dr_cE_Throwable_init4_56 : decode cE_Throwable_init4 56 = .ok (.aconst_null, 1) := by decide +kernel
theorem dr_cE_Throwable_init4_57 : decode cE_Throwable_init4 57 = .ok (.putfield 24, 3) := by decide +kernel
theorem dr_cE_Throwable_init4_60 : decode cE_Throwable_init4 60 = .ok (.return_, 1) := by decide +kernel
theorem dr_cE_Exception_init4_0 : decode cE_Exception_init4 0 = .ok (.aload_n 0, 1) := by decide +kernel
theorem dr_cE_Exception_init4_1 : decode cE_Exception_init4 1 = .ok (.aload_n 1, 1) := by decide +kernel
theorem dr_cE_Exception_init4_2 : decode cE_Exception_init4 2 = .ok (.aload_n 2, 1) := by decide +kernel
theorem dr_cE_Exception_init4_3 : decode cE_Exception_init4 3 = .ok (.iload_n 3, 1) := by decide +kernel
theorem dr_cE_Exception_init4_4 : decode cE_Exception_init4 4 = .ok (.iload 4, 2) := by decide +kernel
theorem dr_cE_Exception_init4_6 : decode cE_Exception_init4 6 = .ok (.invokespecial 16, 3) := by decide +kernel
theorem wr_9_119 : (Jvm.Cond.methodLink "java/lang/Exception" (16 : Nat) ({ cls := "java/lang/Throwable", name := "<init>", desc := "(Ljava/lang/String;Ljava/lang/Throwable;ZZ)V" } : Jvm.MethodName)) ∈ gw := gw_9 119 rfl rfl
theorem wr_1_23 : (Jvm.Cond.initialized "java/lang/Throwable") ∈ gw := gw_1 23 rfl rfl
theorem wr_9_121 : (Jvm.Cond.code ({ cls := "java/lang/Throwable", name := "<init>", desc := "(Ljava/lang/String;Ljava/lang/Throwable;ZZ)V" } : Jvm.MethodName) prog_40_method_5_code (5 : Nat) (Option.none : Option Jvm.ClassFile.FieldType)) ∈ gw := gw_9 121 rfl rfl
theorem wr_9_120 : (Jvm.Cond.instanceMethod ({ cls := "java/lang/Throwable", name := "<init>", desc := "(Ljava/lang/String;Ljava/lang/Throwable;ZZ)V" } : Jvm.MethodName)) ∈ gw := gw_9 120 rfl rfl
theorem dr_cE_Exception_init4_9 : decode cE_Exception_init4 9 = .ok (.return_, 1) := by decide +kernel
theorem dr_cE_RuntimeException_init4_0 : decode cE_RuntimeException_init4 0 = .ok (.aload_n 0, 1) := by decide +kernel
theorem dr_cE_RuntimeException_init4_1 : decode cE_RuntimeException_init4 1 = .ok (.aload_n 1, 1) := by decide +kernel
theorem dr_cE_RuntimeException_init4_2 : decode cE_RuntimeException_init4 2 = .ok (.aload_n 2, 1) := by decide +kernel
theorem dr_cE_RuntimeException_init4_3 : decode cE_RuntimeException_init4 3 = .ok (.iload_n 3, 1) := by decide +kernel
theorem dr_cE_RuntimeException_init4_4 : decode cE_RuntimeException_init4 4 = .ok (.iload 4, 2) := by decide +kernel
theorem dr_cE_RuntimeException_init4_6 : decode cE_RuntimeException_init4 6 = .ok (.invokespecial 16, 3) := by decide +kernel
theorem wr_9_116 : (Jvm.Cond.methodLink "java/lang/RuntimeException" (16 : Nat) ({ cls := "java/lang/Exception", name := "<init>", desc := "(Ljava/lang/String;Ljava/lang/Throwable;ZZ)V" } : Jvm.MethodName)) ∈ gw := gw_9 116 rfl rfl
theorem wr_1_24 : (Jvm.Cond.initialized "java/lang/Exception") ∈ gw := gw_1 24 rfl rfl
theorem wr_9_118 : (Jvm.Cond.code ({ cls := "java/lang/Exception", name := "<init>", desc := "(Ljava/lang/String;Ljava/lang/Throwable;ZZ)V" } : Jvm.MethodName) prog_25_method_5_code (5 : Nat) (Option.none : Option Jvm.ClassFile.FieldType)) ∈ gw := gw_9 118 rfl rfl
theorem wr_9_117 : (Jvm.Cond.instanceMethod ({ cls := "java/lang/Exception", name := "<init>", desc := "(Ljava/lang/String;Ljava/lang/Throwable;ZZ)V" } : Jvm.MethodName)) ∈ gw := gw_9 117 rfl rfl
theorem dr_cE_RuntimeException_init4_9 : decode cE_RuntimeException_init4 9 = .ok (.return_, 1) := by decide +kernel
theorem dr_cX16_init_0 : decode cX16_init 0 = .ok (.aload_n 0, 1) := by decide +kernel
theorem dr_cX16_init_1 : decode cX16_init 1 = .ok (.aconst_null, 1) := by decide +kernel
theorem dr_cX16_init_2 : decode cX16_init 2 = .ok (.aconst_null, 1) := by decide +kernel
theorem dr_cX16_init_3 : decode cX16_init 3 = .ok (.iconst 0, 1) := by decide +kernel
theorem dr_cX16_init_4 : decode cX16_init 4 = .ok (.iconst 0, 1) := by decide +kernel
theorem dr_cX16_init_5 : decode cX16_init 5 = .ok (.invokespecial 1, 3) := by decide +kernel
theorem wr_9_113 : (Jvm.Cond.methodLink "SpillForgeModel$Wrong" (1 : Nat) ({ cls := "java/lang/RuntimeException", name := "<init>", desc := "(Ljava/lang/String;Ljava/lang/Throwable;ZZ)V" } : Jvm.MethodName)) ∈ gw := gw_9 113 rfl rfl
theorem wr_1_25 : (Jvm.Cond.initialized "java/lang/RuntimeException") ∈ gw := gw_1 25 rfl rfl
theorem wr_9_115 : (Jvm.Cond.code ({ cls := "java/lang/RuntimeException", name := "<init>", desc := "(Ljava/lang/String;Ljava/lang/Throwable;ZZ)V" } : Jvm.MethodName) prog_33_method_5_code (5 : Nat) (Option.none : Option Jvm.ClassFile.FieldType)) ∈ gw := gw_9 115 rfl rfl
theorem wr_9_114 : (Jvm.Cond.instanceMethod ({ cls := "java/lang/RuntimeException", name := "<init>", desc := "(Ljava/lang/String;Ljava/lang/Throwable;ZZ)V" } : Jvm.MethodName)) ∈ gw := gw_9 114 rfl rfl
theorem dr_cX16_init_8 : decode cX16_init 8 = .ok (.aload_n 0, 1) := by decide +kernel
theorem dr_cX16_init_9 : decode cX16_init 9 = .ok (.iload_n 1, 1) := by decide +kernel
theorem dr_cX16_init_10 : decode cX16_init 10 = .ok (.putfield 7, 3) := by decide +kernel
theorem wr_9_122 : (Jvm.Cond.fieldLink "SpillForgeModel$Wrong" (7 : Nat) "SpillForgeModel$Wrong" "place" "I") ∈ gw := gw_9 122 rfl rfl
theorem dr_cX16_init_13 : decode cX16_init 13 = .ok (.return_, 1) := by decide +kernel
theorem dr_cX14_no_0 : decode cX14_no 0 = .ok (.new 124, 3) := by decide +kernel
theorem wr_9_101 : (Jvm.Cond.classLink "SpillForgeModel$Reader" (124 : Nat) "SpillForgeModel$Wrong") ∈ gw := gw_9 101 rfl rfl
theorem wr_9_102 : (Jvm.Cond.instantiable "SpillForgeModel$Wrong" (7 : Nat)) ∈ gw := gw_9 102 rfl rfl
theorem wr_1_37 : (Jvm.Cond.initialized "SpillForgeModel$Wrong") ∈ gw := gw_1 37 rfl rfl
theorem dr_cX14_no_3 : decode cX14_no 3 = .ok (.dup, 1) := by decide +kernel
theorem dr_cX14_no_4 : decode cX14_no 4 = .ok (.aload_n 0, 1) := by decide +kernel
theorem dr_cX14_no_5 : decode cX14_no 5 = .ok (.getfield 47, 3) := by decide +kernel
theorem dr_cX14_no_8 : decode cX14_no 8 = .ok (.invokespecial 126, 3) := by decide +kernel
theorem wr_9_110 : (Jvm.Cond.methodLink "SpillForgeModel$Reader" (126 : Nat) ({ cls := "SpillForgeModel$Wrong", name := "<init>", desc := "(I)V" } : Jvm.MethodName)) ∈ gw := gw_9 110 rfl rfl
theorem wr_9_112 : (Jvm.Cond.code ({ cls := "SpillForgeModel$Wrong", name := "<init>", desc := "(I)V" } : Jvm.MethodName) prog_19_method_1_code (2 : Nat) (Option.none : Option Jvm.ClassFile.FieldType)) ∈ gw := gw_9 112 rfl rfl
theorem wr_9_111 : (Jvm.Cond.instanceMethod ({ cls := "SpillForgeModel$Wrong", name := "<init>", desc := "(I)V" } : Jvm.MethodName)) ∈ gw := gw_9 111 rfl rfl
theorem dr_cX14_no_11 : decode cX14_no 11 = .ok (.areturn, 1) := by decide +kernel
theorem dr_cX14_is_0 : decode cX14_is 0 = .ok (.aload_n 0, 1) := by decide +kernel
theorem dr_cX14_is_1 : decode cX14_is 1 = .ok (.getfield 38, 3) := by decide +kernel
theorem dr_cX14_is_4 : decode cX14_is 4 = .ok (.iconst 5, 1) := by decide +kernel
theorem dr_cX14_is_5 : decode cX14_is 5 = .ok (.if_icmp .eq 11, 3) := by decide +kernel
theorem dr_cX14_is_16 : decode cX14_is 16 = .ok (.aload_n 0, 1) := by decide +kernel
theorem dr_cX14_is_17 : decode cX14_is 17 = .ok (.getfield 11, 3) := by decide +kernel
theorem dr_cX14_is_20 : decode cX14_is 20 = .ok (.aload_n 1, 1) := by decide +kernel
theorem dr_cX14_is_21 : decode cX14_is 21 = .ok (.invokevirtual 128, 3) := by decide +kernel
theorem wr_9_145 : (Jvm.Cond.methodLink "SpillForgeModel$Reader" (128 : Nat) ({ cls := "java/lang/String", name := "equals", desc := "(Ljava/lang/Object;)Z" } : Jvm.MethodName)) ∈ gw := gw_9 145 rfl rfl
theorem wr_9_148 : (Jvm.Cond.code ({ cls := "java/lang/String", name := "equals", desc := "(Ljava/lang/Object;)Z" } : Jvm.MethodName) prog_34_method_66_code (3 : Nat) (Option.some Jvm.ClassFile.FieldType.boolean)) ∈ gw := gw_9 148 rfl rfl
theorem wr_9_146 : (Jvm.Cond.instanceMethod ({ cls := "java/lang/String", name := "equals", desc := "(Ljava/lang/Object;)Z" } : Jvm.MethodName)) ∈ gw := gw_9 146 rfl rfl
theorem wr_9_147 : (Jvm.Cond.selects "java/lang/String" ({ cls := "java/lang/String", name := "equals", desc := "(Ljava/lang/Object;)Z" } : Jvm.MethodName) ({ cls := "java/lang/String", name := "equals", desc := "(Ljava/lang/Object;)Z" } : Jvm.MethodName)) ∈ gw := gw_9 147 rfl rfl
theorem dr_cX14_is_24 : decode cX14_is 24 = .ok (.ifCond .eq 7, 3) := by decide +kernel
theorem dr_cX14_is_31 : decode cX14_is 31 = .ok (.iconst 0, 1) := by decide +kernel
theorem dr_cX14_is_32 : decode cX14_is 32 = .ok (.ireturn, 1) := by decide +kernel
theorem dr_cX14_is_27 : decode cX14_is 27 = .ok (.iconst 1, 1) := by decide +kernel
theorem dr_cX14_is_28 : decode cX14_is 28 = .ok (.goto 4, 3) := by decide +kernel
theorem dr_cX14_is_8 : decode cX14_is 8 = .ok (.aload_n 0, 1) := by decide +kernel
theorem dr_cX14_is_9 : decode cX14_is 9 = .ok (.getfield 38, 3) := by decide +kernel
theorem dr_cX14_is_12 : decode cX14_is 12 = .ok (.iconst 1, 1) := by decide +kernel
theorem dr_cX14_is_13 : decode cX14_is 13 = .ok (.if_icmp .ne 18, 3) := by decide +kernel
theorem dr_cX14_want_0 : decode cX14_want 0 = .ok (.aload_n 0, 1) := by decide +kernel
theorem dr_cX14_want_1 : decode cX14_want 1 = .ok (.aload_n 1, 1) := by decide +kernel
theorem dr_cX14_want_2 : decode cX14_want 2 = .ok (.invokevirtual 132, 3) := by decide +kernel
theorem wr_9_141 : (Jvm.Cond.methodLink "SpillForgeModel$Reader" (132 : Nat) ({ cls := "SpillForgeModel$Reader", name := "is", desc := "(Ljava/lang/String;)Z" } : Jvm.MethodName)) ∈ gw := gw_9 141 rfl rfl
theorem wr_9_144 : (Jvm.Cond.code ({ cls := "SpillForgeModel$Reader", name := "is", desc := "(Ljava/lang/String;)Z" } : Jvm.MethodName) prog_17_method_9_code (2 : Nat) (Option.some Jvm.ClassFile.FieldType.boolean)) ∈ gw := gw_9 144 rfl rfl
theorem wr_9_143 : (Jvm.Cond.instanceMethod ({ cls := "SpillForgeModel$Reader", name := "is", desc := "(Ljava/lang/String;)Z" } : Jvm.MethodName)) ∈ gw := gw_9 143 rfl rfl
theorem wr_p_84 : Cond.selects "SpillForgeModel$Reader" ⟨"SpillForgeModel$Reader", "is", "(Ljava/lang/String;)Z"⟩ ⟨"SpillForgeModel$Reader", "is", "(Ljava/lang/String;)Z"⟩ ∈ gw := gw_p _ 84 rfl rfl rfl
theorem dr_cX14_want_5 : decode cX14_want 5 = .ok (.ifCond .ne 8, 3) := by decide +kernel
theorem dr_cX14_want_13 : decode cX14_want 13 = .ok (.aload_n 0, 1) := by decide +kernel
theorem dr_cX14_want_14 : decode cX14_want 14 = .ok (.invokevirtual 35, 3) := by decide +kernel
theorem wr_7_215 : (Jvm.Cond.methodLink "SpillForgeModel$Reader" (35 : Nat) ({ cls := "SpillForgeModel$Reader", name := "next", desc := "()V" } : Jvm.MethodName)) ∈ gw := gw_7 215 rfl rfl
theorem wr_7_218 : (Jvm.Cond.code ({ cls := "SpillForgeModel$Reader", name := "next", desc := "()V" } : Jvm.MethodName) prog_17_method_4_code (3 : Nat) (Option.none : Option Jvm.ClassFile.FieldType)) ∈ gw := gw_7 218 rfl rfl
theorem wr_7_217 : (Jvm.Cond.instanceMethod ({ cls := "SpillForgeModel$Reader", name := "next", desc := "()V" } : Jvm.MethodName)) ∈ gw := gw_7 217 rfl rfl
theorem wr_p_75 : Cond.selects "SpillForgeModel$Reader" ⟨"SpillForgeModel$Reader", "next", "()V"⟩ ⟨"SpillForgeModel$Reader", "next", "()V"⟩ ∈ gw := gw_p _ 75 rfl rfl rfl
theorem dr_cX14_want_17 : decode cX14_want 17 = .ok (.return_, 1) := by decide +kernel
theorem dr_cX14_want_8 : decode cX14_want 8 = .ok (.aload_n 0, 1) := by decide +kernel
theorem dr_cX14_want_9 : decode cX14_want 9 = .ok (.invokevirtual 136, 3) := by decide +kernel
theorem wr_9_97 : (Jvm.Cond.methodLink "SpillForgeModel$Reader" (136 : Nat) ({ cls := "SpillForgeModel$Reader", name := "no", desc := "()LSpillForgeModel$Wrong;" } : Jvm.MethodName)) ∈ gw := gw_9 97 rfl rfl
theorem wr_9_100 : (Jvm.Cond.code ({ cls := "SpillForgeModel$Reader", name := "no", desc := "()LSpillForgeModel$Wrong;" } : Jvm.MethodName) prog_17_method_8_code (1 : Nat) (Option.some (Jvm.ClassFile.FieldType.object "SpillForgeModel$Wrong"))) ∈ gw := gw_9 100 rfl rfl
theorem wr_9_99 : (Jvm.Cond.instanceMethod ({ cls := "SpillForgeModel$Reader", name := "no", desc := "()LSpillForgeModel$Wrong;" } : Jvm.MethodName)) ∈ gw := gw_9 99 rfl rfl
theorem wr_p_81 : Cond.selects "SpillForgeModel$Reader" ⟨"SpillForgeModel$Reader", "no", "()LSpillForgeModel$Wrong;"⟩ ⟨"SpillForgeModel$Reader", "no", "()LSpillForgeModel$Wrong;"⟩ ∈ gw := gw_p _ 81 rfl rfl rfl
theorem dr_cX14_want_12 : decode cX14_want 12 = .ok (.athrow, 1) := by decide +kernel
theorem dr_cX14_want__0 : decode cX14_want_ 0 = .ok (.aload_n 0, 1) := by decide +kernel
theorem dr_cX14_want__1 : decode cX14_want_ 1 = .ok (.getfield 38, 3) := by decide +kernel
theorem dr_cX14_want__4 : decode cX14_want_ 4 = .ok (.iload_n 1, 1) := by decide +kernel
theorem dr_cX14_want__5 : decode cX14_want_ 5 = .ok (.if_icmp .eq 8, 3) := by decide +kernel
theorem dr_cX14_want__13 : decode cX14_want_ 13 = .ok (.aload_n 0, 1) := by decide +kernel
theorem dr_cX14_want__14 : decode cX14_want_ 14 = .ok (.getfield 80, 3) := by decide +kernel
theorem dr_cX14_want__17 : decode cX14_want_ 17 = .ok (.istore_n 2, 1) := by decide +kernel
theorem dr_cX14_want__18 : decode cX14_want_ 18 = .ok (.aload_n 0, 1) := by decide +kernel
theorem dr_cX14_want__19 : decode cX14_want_ 19 = .ok (.invokevirtual 35, 3) := by decide +kernel
theorem dr_cX14_want__22 : decode cX14_want_ 22 = .ok (.iload_n 2, 1) := by decide +kernel
theorem dr_cX14_want__23 : decode cX14_want_ 23 = .ok (.ireturn, 1) := by decide +kernel
theorem dr_cX14_want__8 : decode cX14_want_ 8 = .ok (.aload_n 0, 1) := by decide +kernel
theorem dr_cX14_want__9 : decode cX14_want_ 9 = .ok (.invokevirtual 136, 3) := by decide +kernel
theorem dr_cX14_want__12 : decode cX14_want_ 12 = .ok (.athrow, 1) := by decide +kernel
abbrev ky_655436_Throwable_init : gKey := (cE_Throwable_init4, 5, "java/lang/Throwable", none, [], "<init>", fun _ _ => True)
def pp_655436_Throwable_init (D : va_G) (I : FieldType → ClassId) (P655431 : List Nat) (F655432 : Nat → va_E) (q655433 : Nat) (p655434 : Int32) (p655435 : Int32) : Option Value → va_W → Nat → Nat → Prop := fun r w dc ds => ∃ (F655562 : Nat → va_E), r = none ∧ w = va_pl P655431 F655562 ∧ rFr [q655433] P655431 F655432 F655562 ∧ F655562 q655433 = .inr (21, [.null, .null, .null, .null, .null, .int p655434, .int p655435]) ∧ dc ≤ 0 ∧ ds ≤ 0
set_option maxRecDepth 100000 in
set_option maxHeartbeats 4000000 in
theorem cp_655436_Throwable_init (l : Launch) (hl0 : l.stackTraces = false) (D : va_G) (I : FieldType → ClassId) (P655431 : List Nat) (F655432 : Nat → va_E) (q655433 : Nat) (p655434 : Int32) (p655435 : Int32) (hmq655433 : q655433 ∈ P655431) (heq655433 : F655432 q655433 = .inr (21, [.null, .null, .null, .null, .null, .int p655434, .int p655435])) (bp655435 : gB p655435 0 8192) : CtA (gV D I) l yE_Throwable_init4 cE_Throwable_init4 5 none 1 12 0 0 [.ref q655433, .null, .null, .int 0, .int 0] (va_pl P655431 F655432) (pp_655436_Throwable_init D I P655431 F655432 q655433 p655434 p655435) gNA := by
  refine CtA_ofF hl0 (by decide +kernel) (Nat.le_of_ble_eq_true rfl) ?_
  have bp655434 := gB_any p655434
  refine G_aload_n 0 dr_cE_Throwable_init4_0 rfl ?_
  refine G_obj dr_cE_Throwable_init4_1 wr_4_220 wr_1_51 wr_1_52 (Nat.le_of_ble_eq_true rfl) (Nat.le_of_ble_eq_true rfl) ?_
  refine G_aload_n 0 dr_cE_Throwable_init4_4 rfl ?_
  refine G_aload_n 0 dr_cE_Throwable_init4_5 rfl ?_
  refine Gp_put 0 hmq655433 heq655433 dr_cE_Throwable_init4_6 (gk_X16 D I) (Nat.le_of_ble_eq_true rfl) wr_5_15 rfl rfl rfl (Nat.le_of_ble_eq_true rfl) (fun F655437 e655438 n655439 => ?_)
  have he655440 : F655437 q655433 = .inr (21, [.ref q655433, .null, .null, .null, .null, .int p655434, .int p655435]) := e655438
  have hfr655441 : rFr [q655433] P655431 F655432 F655437 := rFr_put (rFr_rf (W := []) (P := P655431) (F := F655432)) n655439
  refine G_aload_n 0 dr_cE_Throwable_init4_9 rfl ?_
  refine G_gets dr_cE_Throwable_init4_10 wr_4_221 gz_us (fun x655444 hx655443 => ?_)
  rcases hx655443 with rfl | ⟨t655442, rfl⟩
  · refine Gp_put 1 hmq655433 he655440 dr_cE_Throwable_init4_13 (gk_X16 D I) (Nat.le_of_ble_eq_true rfl) wr_5_16 rfl rfl rfl (Nat.le_of_ble_eq_true rfl) (fun F655445 e655446 n655447 => ?_)
    have he655448 : F655445 q655433 = .inr (21, [.ref q655433, .null, .null, .null, .null, .int p655434, .int p655435]) := e655446
    have hfr655449 : rFr [q655433] P655431 F655432 F655445 := rFr_put' List.mem_cons_self hfr655441 n655447
    refine G_aload_n 0 dr_cE_Throwable_init4_16 rfl ?_
    refine G_gets dr_cE_Throwable_init4_17 wr_4_223 gz_ss (fun x655452 hx655451 => ?_)
    rcases hx655451 with rfl | ⟨t655450, rfl⟩
    · refine Gp_put 2 hmq655433 he655448 dr_cE_Throwable_init4_20 (gk_X16 D I) (Nat.le_of_ble_eq_true rfl) wr_5_17 rfl rfl rfl (Nat.le_of_ble_eq_true rfl) (fun F655453 e655454 n655455 => ?_)
      have he655456 : F655453 q655433 = .inr (21, [.ref q655433, .null, .null, .null, .null, .int p655434, .int p655435]) := e655454
      have hfr655457 : rFr [q655433] P655431 F655432 F655453 := rFr_put' List.mem_cons_self hfr655449 n655455
      refine G_iload 4 dr_cE_Throwable_init4_23 rfl ?_
      refine G_if_eq 36 dr_cE_Throwable_init4_25 (by decide +kernel) (fun _ => ?_) (fun hc => absurd hc (by decide))
      refine G_aload_n 0 dr_cE_Throwable_init4_36 rfl ?_
      refine G_null dr_cE_Throwable_init4_37 ?_
      refine Gp_put 1 hmq655433 he655456 dr_cE_Throwable_init4_38 (gk_X16 D I) (Nat.le_of_ble_eq_true rfl) wr_5_16 rfl rfl rfl (Nat.le_of_ble_eq_true rfl) (fun F655458 e655459 n655460 => ?_)
      have he655461 : F655458 q655433 = .inr (21, [.ref q655433, .null, .null, .null, .null, .int p655434, .int p655435]) := e655459
      have hfr655462 : rFr [q655433] P655431 F655432 F655458 := rFr_put' List.mem_cons_self hfr655457 n655460
      refine G_aload_n 0 dr_cE_Throwable_init4_41 rfl ?_
      refine G_aload_nN 1 dr_cE_Throwable_init4_42 rfl ?_
      refine Gp_put 3 hmq655433 he655461 dr_cE_Throwable_init4_43 (gk_X16 D I) (Nat.le_of_ble_eq_true rfl) wr_5_14 rfl rfl rfl (Nat.le_of_ble_eq_true rfl) (fun F655463 e655464 n655465 => ?_)
      have he655466 : F655463 q655433 = .inr (21, [.ref q655433, .null, .null, .null, .null, .int p655434, .int p655435]) := e655464
      have hfr655467 : rFr [q655433] P655431 F655432 F655463 := rFr_put' List.mem_cons_self hfr655462 n655465
      refine G_aload_n 0 dr_cE_Throwable_init4_46 rfl ?_
      refine G_aload_nN 2 dr_cE_Throwable_init4_47 rfl ?_
      refine Gp_put 0 hmq655433 he655466 dr_cE_Throwable_init4_48 (gk_X16 D I) (Nat.le_of_ble_eq_true rfl) wr_5_15 rfl rfl rfl (Nat.le_of_ble_eq_true rfl) (fun F655468 e655469 n655470 => ?_)
      have he655471 : F655468 q655433 = .inr (21, [.null, .null, .null, .null, .null, .int p655434, .int p655435]) := e655469
      have hfr655472 : rFr [q655433] P655431 F655432 F655468 := rFr_put' List.mem_cons_self hfr655467 n655470
      refine G_iload_n 3 dr_cE_Throwable_init4_51 rfl ?_
      refine G_if_ne 60 dr_cE_Throwable_init4_52 (by decide +kernel) (fun hc => absurd hc (by decide)) (fun _ => ?_)
      refine G_aload_n 0 dr_cE_Throwable_init4_55 rfl ?_
      refine G_null dr_cE_Throwable_init4_56 ?_
      refine Gp_put 2 hmq655433 he655471 dr_cE_Throwable_init4_57 (gk_X16 D I) (Nat.le_of_ble_eq_true rfl) wr_5_17 rfl rfl rfl (Nat.le_of_ble_eq_true rfl) (fun F655473 e655474 n655475 => ?_)
      have he655476 : F655473 q655433 = .inr (21, [.null, .null, .null, .null, .null, .int p655434, .int p655435]) := e655474
      have hfr655477 : rFr [q655433] P655431 F655432 F655473 := rFr_put' List.mem_cons_self hfr655472 n655475
      exact G_vretA dr_cE_Throwable_init4_60 rfl (Nat.le_of_ble_eq_true rfl) (Nat.le_of_ble_eq_true rfl) ⟨F655473, rfl, rfl, hfr655477, he655476, (Nat.le_of_ble_eq_true rfl), (Nat.le_of_ble_eq_true rfl)⟩
    · refine Gp_put 2 hmq655433 he655448 dr_cE_Throwable_init4_20 (gk_X16 D I) (Nat.le_of_ble_eq_true rfl) wr_5_17 rfl rfl rfl (Nat.le_of_ble_eq_true rfl) (fun F655478 e655479 n655480 => ?_)
      have he655481 : F655478 q655433 = .inr (21, [.ref q655433, .null, .ref t655450, .null, .null, .int p655434, .int p655435]) := e655479
      have hfr655482 : rFr [q655433] P655431 F655432 F655478 := rFr_put' List.mem_cons_self hfr655449 n655480
      refine G_iload 4 dr_cE_Throwable_init4_23 rfl ?_
      refine G_if_eq 36 dr_cE_Throwable_init4_25 (by decide +kernel) (fun _ => ?_) (fun hc => absurd hc (by decide))
      refine G_aload_n 0 dr_cE_Throwable_init4_36 rfl ?_
      refine G_null dr_cE_Throwable_init4_37 ?_
      refine Gp_put 1 hmq655433 he655481 dr_cE_Throwable_init4_38 (gk_X16 D I) (Nat.le_of_ble_eq_true rfl) wr_5_16 rfl rfl rfl (Nat.le_of_ble_eq_true rfl) (fun F655483 e655484 n655485 => ?_)
      have he655486 : F655483 q655433 = .inr (21, [.ref q655433, .null, .ref t655450, .null, .null, .int p655434, .int p655435]) := e655484
      have hfr655487 : rFr [q655433] P655431 F655432 F655483 := rFr_put' List.mem_cons_self hfr655482 n655485
      refine G_aload_n 0 dr_cE_Throwable_init4_41 rfl ?_
      refine G_aload_nN 1 dr_cE_Throwable_init4_42 rfl ?_
      refine Gp_put 3 hmq655433 he655486 dr_cE_Throwable_init4_43 (gk_X16 D I) (Nat.le_of_ble_eq_true rfl) wr_5_14 rfl rfl rfl (Nat.le_of_ble_eq_true rfl) (fun F655488 e655489 n655490 => ?_)
      have he655491 : F655488 q655433 = .inr (21, [.ref q655433, .null, .ref t655450, .null, .null, .int p655434, .int p655435]) := e655489
      have hfr655492 : rFr [q655433] P655431 F655432 F655488 := rFr_put' List.mem_cons_self hfr655487 n655490
      refine G_aload_n 0 dr_cE_Throwable_init4_46 rfl ?_
      refine G_aload_nN 2 dr_cE_Throwable_init4_47 rfl ?_
      refine Gp_put 0 hmq655433 he655491 dr_cE_Throwable_init4_48 (gk_X16 D I) (Nat.le_of_ble_eq_true rfl) wr_5_15 rfl rfl rfl (Nat.le_of_ble_eq_true rfl) (fun F655493 e655494 n655495 => ?_)
      have he655496 : F655493 q655433 = .inr (21, [.null, .null, .ref t655450, .null, .null, .int p655434, .int p655435]) := e655494
      have hfr655497 : rFr [q655433] P655431 F655432 F655493 := rFr_put' List.mem_cons_self hfr655492 n655495
      refine G_iload_n 3 dr_cE_Throwable_init4_51 rfl ?_
      refine G_if_ne 60 dr_cE_Throwable_init4_52 (by decide +kernel) (fun hc => absurd hc (by decide)) (fun _ => ?_)
      refine G_aload_n 0 dr_cE_Throwable_init4_55 rfl ?_
      refine G_null dr_cE_Throwable_init4_56 ?_
      refine Gp_put 2 hmq655433 he655496 dr_cE_Throwable_init4_57 (gk_X16 D I) (Nat.le_of_ble_eq_true rfl) wr_5_17 rfl rfl rfl (Nat.le_of_ble_eq_true rfl) (fun F655498 e655499 n655500 => ?_)
      have he655501 : F655498 q655433 = .inr (21, [.null, .null, .null, .null, .null, .int p655434, .int p655435]) := e655499
      have hfr655502 : rFr [q655433] P655431 F655432 F655498 := rFr_put' List.mem_cons_self hfr655497 n655500
      exact G_vretA dr_cE_Throwable_init4_60 rfl (Nat.le_of_ble_eq_true rfl) (Nat.le_of_ble_eq_true rfl) ⟨F655498, rfl, rfl, hfr655502, he655501, (Nat.le_of_ble_eq_true rfl), (Nat.le_of_ble_eq_true rfl)⟩
  · refine Gp_put 1 hmq655433 he655440 dr_cE_Throwable_init4_13 (gk_X16 D I) (Nat.le_of_ble_eq_true rfl) wr_5_16 rfl rfl rfl (Nat.le_of_ble_eq_true rfl) (fun F655503 e655504 n655505 => ?_)
    have he655506 : F655503 q655433 = .inr (21, [.ref q655433, .ref t655442, .null, .null, .null, .int p655434, .int p655435]) := e655504
    have hfr655507 : rFr [q655433] P655431 F655432 F655503 := rFr_put' List.mem_cons_self hfr655441 n655505
    refine G_aload_n 0 dr_cE_Throwable_init4_16 rfl ?_
    refine G_gets dr_cE_Throwable_init4_17 wr_4_223 gz_ss (fun x655510 hx655509 => ?_)
    rcases hx655509 with rfl | ⟨t655508, rfl⟩
    · refine Gp_put 2 hmq655433 he655506 dr_cE_Throwable_init4_20 (gk_X16 D I) (Nat.le_of_ble_eq_true rfl) wr_5_17 rfl rfl rfl (Nat.le_of_ble_eq_true rfl) (fun F655511 e655512 n655513 => ?_)
      have he655514 : F655511 q655433 = .inr (21, [.ref q655433, .ref t655442, .null, .null, .null, .int p655434, .int p655435]) := e655512
      have hfr655515 : rFr [q655433] P655431 F655432 F655511 := rFr_put' List.mem_cons_self hfr655507 n655513
      refine G_iload 4 dr_cE_Throwable_init4_23 rfl ?_
      refine G_if_eq 36 dr_cE_Throwable_init4_25 (by decide +kernel) (fun _ => ?_) (fun hc => absurd hc (by decide))
      refine G_aload_n 0 dr_cE_Throwable_init4_36 rfl ?_
      refine G_null dr_cE_Throwable_init4_37 ?_
      refine Gp_put 1 hmq655433 he655514 dr_cE_Throwable_init4_38 (gk_X16 D I) (Nat.le_of_ble_eq_true rfl) wr_5_16 rfl rfl rfl (Nat.le_of_ble_eq_true rfl) (fun F655516 e655517 n655518 => ?_)
      have he655519 : F655516 q655433 = .inr (21, [.ref q655433, .null, .null, .null, .null, .int p655434, .int p655435]) := e655517
      have hfr655520 : rFr [q655433] P655431 F655432 F655516 := rFr_put' List.mem_cons_self hfr655515 n655518
      refine G_aload_n 0 dr_cE_Throwable_init4_41 rfl ?_
      refine G_aload_nN 1 dr_cE_Throwable_init4_42 rfl ?_
      refine Gp_put 3 hmq655433 he655519 dr_cE_Throwable_init4_43 (gk_X16 D I) (Nat.le_of_ble_eq_true rfl) wr_5_14 rfl rfl rfl (Nat.le_of_ble_eq_true rfl) (fun F655521 e655522 n655523 => ?_)
      have he655524 : F655521 q655433 = .inr (21, [.ref q655433, .null, .null, .null, .null, .int p655434, .int p655435]) := e655522
      have hfr655525 : rFr [q655433] P655431 F655432 F655521 := rFr_put' List.mem_cons_self hfr655520 n655523
      refine G_aload_n 0 dr_cE_Throwable_init4_46 rfl ?_
      refine G_aload_nN 2 dr_cE_Throwable_init4_47 rfl ?_
      refine Gp_put 0 hmq655433 he655524 dr_cE_Throwable_init4_48 (gk_X16 D I) (Nat.le_of_ble_eq_true rfl) wr_5_15 rfl rfl rfl (Nat.le_of_ble_eq_true rfl) (fun F655526 e655527 n655528 => ?_)
      have he655529 : F655526 q655433 = .inr (21, [.null, .null, .null, .null, .null, .int p655434, .int p655435]) := e655527
      have hfr655530 : rFr [q655433] P655431 F655432 F655526 := rFr_put' List.mem_cons_self hfr655525 n655528
      refine G_iload_n 3 dr_cE_Throwable_init4_51 rfl ?_
      refine G_if_ne 60 dr_cE_Throwable_init4_52 (by decide +kernel) (fun hc => absurd hc (by decide)) (fun _ => ?_)
      refine G_aload_n 0 dr_cE_Throwable_init4_55 rfl ?_
      refine G_null dr_cE_Throwable_init4_56 ?_
      refine Gp_put 2 hmq655433 he655529 dr_cE_Throwable_init4_57 (gk_X16 D I) (Nat.le_of_ble_eq_true rfl) wr_5_17 rfl rfl rfl (Nat.le_of_ble_eq_true rfl) (fun F655531 e655532 n655533 => ?_)
      have he655534 : F655531 q655433 = .inr (21, [.null, .null, .null, .null, .null, .int p655434, .int p655435]) := e655532
      have hfr655535 : rFr [q655433] P655431 F655432 F655531 := rFr_put' List.mem_cons_self hfr655530 n655533
      exact G_vretA dr_cE_Throwable_init4_60 rfl (Nat.le_of_ble_eq_true rfl) (Nat.le_of_ble_eq_true rfl) ⟨F655531, rfl, rfl, hfr655535, he655534, (Nat.le_of_ble_eq_true rfl), (Nat.le_of_ble_eq_true rfl)⟩
    · refine Gp_put 2 hmq655433 he655506 dr_cE_Throwable_init4_20 (gk_X16 D I) (Nat.le_of_ble_eq_true rfl) wr_5_17 rfl rfl rfl (Nat.le_of_ble_eq_true rfl) (fun F655536 e655537 n655538 => ?_)
      have he655539 : F655536 q655433 = .inr (21, [.ref q655433, .ref t655442, .ref t655508, .null, .null, .int p655434, .int p655435]) := e655537
      have hfr655540 : rFr [q655433] P655431 F655432 F655536 := rFr_put' List.mem_cons_self hfr655507 n655538
      refine G_iload 4 dr_cE_Throwable_init4_23 rfl ?_
      refine G_if_eq 36 dr_cE_Throwable_init4_25 (by decide +kernel) (fun _ => ?_) (fun hc => absurd hc (by decide))
      refine G_aload_n 0 dr_cE_Throwable_init4_36 rfl ?_
      refine G_null dr_cE_Throwable_init4_37 ?_
      refine Gp_put 1 hmq655433 he655539 dr_cE_Throwable_init4_38 (gk_X16 D I) (Nat.le_of_ble_eq_true rfl) wr_5_16 rfl rfl rfl (Nat.le_of_ble_eq_true rfl) (fun F655541 e655542 n655543 => ?_)
      have he655544 : F655541 q655433 = .inr (21, [.ref q655433, .null, .ref t655508, .null, .null, .int p655434, .int p655435]) := e655542
      have hfr655545 : rFr [q655433] P655431 F655432 F655541 := rFr_put' List.mem_cons_self hfr655540 n655543
      refine G_aload_n 0 dr_cE_Throwable_init4_41 rfl ?_
      refine G_aload_nN 1 dr_cE_Throwable_init4_42 rfl ?_
      refine Gp_put 3 hmq655433 he655544 dr_cE_Throwable_init4_43 (gk_X16 D I) (Nat.le_of_ble_eq_true rfl) wr_5_14 rfl rfl rfl (Nat.le_of_ble_eq_true rfl) (fun F655546 e655547 n655548 => ?_)
      have he655549 : F655546 q655433 = .inr (21, [.ref q655433, .null, .ref t655508, .null, .null, .int p655434, .int p655435]) := e655547
      have hfr655550 : rFr [q655433] P655431 F655432 F655546 := rFr_put' List.mem_cons_self hfr655545 n655548
      refine G_aload_n 0 dr_cE_Throwable_init4_46 rfl ?_
      refine G_aload_nN 2 dr_cE_Throwable_init4_47 rfl ?_
      refine Gp_put 0 hmq655433 he655549 dr_cE_Throwable_init4_48 (gk_X16 D I) (Nat.le_of_ble_eq_true rfl) wr_5_15 rfl rfl rfl (Nat.le_of_ble_eq_true rfl) (fun F655551 e655552 n655553 => ?_)
      have he655554 : F655551 q655433 = .inr (21, [.null, .null, .ref t655508, .null, .null, .int p655434, .int p655435]) := e655552
      have hfr655555 : rFr [q655433] P655431 F655432 F655551 := rFr_put' List.mem_cons_self hfr655550 n655553
      refine G_iload_n 3 dr_cE_Throwable_init4_51 rfl ?_
      refine G_if_ne 60 dr_cE_Throwable_init4_52 (by decide +kernel) (fun hc => absurd hc (by decide)) (fun _ => ?_)
      refine G_aload_n 0 dr_cE_Throwable_init4_55 rfl ?_
      refine G_null dr_cE_Throwable_init4_56 ?_
      refine Gp_put 2 hmq655433 he655554 dr_cE_Throwable_init4_57 (gk_X16 D I) (Nat.le_of_ble_eq_true rfl) wr_5_17 rfl rfl rfl (Nat.le_of_ble_eq_true rfl) (fun F655556 e655557 n655558 => ?_)
      have he655559 : F655556 q655433 = .inr (21, [.null, .null, .null, .null, .null, .int p655434, .int p655435]) := e655557
      have hfr655560 : rFr [q655433] P655431 F655432 F655556 := rFr_put' List.mem_cons_self hfr655555 n655558
      exact G_vretA dr_cE_Throwable_init4_60 rfl (Nat.le_of_ble_eq_true rfl) (Nat.le_of_ble_eq_true rfl) ⟨F655556, rfl, rfl, hfr655560, he655559, (Nat.le_of_ble_eq_true rfl), (Nat.le_of_ble_eq_true rfl)⟩
abbrev ky_655430_Exception_init : gKey := (cE_Exception_init4, 5, "java/lang/Exception", none, [], "<init>", fun _ _ => True)
def pp_655430_Exception_init (D : va_G) (I : FieldType → ClassId) (P655425 : List Nat) (F655426 : Nat → va_E) (q655427 : Nat) (p655428 : Int32) (p655429 : Int32) : Option Value → va_W → Nat → Nat → Prop := fun r w dc ds => ∃ (F655574 : Nat → va_E), r = none ∧ w = va_pl P655425 F655574 ∧ rFr [q655427] P655425 F655426 F655574 ∧ F655574 q655427 = .inr (21, [.null, .null, .null, .null, .null, .int p655428, .int p655429]) ∧ dc ≤ 0 ∧ ds ≤ 0
set_option maxRecDepth 100000 in
set_option maxHeartbeats 4000000 in
theorem cp_655430_Exception_init (l : Launch) (hl0 : l.stackTraces = false) (D : va_G) (I : FieldType → ClassId) (P655425 : List Nat) (F655426 : Nat → va_E) (q655427 : Nat) (p655428 : Int32) (p655429 : Int32) (hmq655427 : q655427 ∈ P655425) (heq655427 : F655426 q655427 = .inr (21, [.null, .null, .null, .null, .null, .int p655428, .int p655429])) (bp655429 : gB p655429 0 8192) : CtA (gV D I) l yE_Exception_init4 cE_Exception_init4 5 none 2 36 0 0 [.ref q655427, .null, .null, .int 0, .int 0] (va_pl P655425 F655426) (pp_655430_Exception_init D I P655425 F655426 q655427 p655428 p655429) gNA := by
  refine CtA_ofF hl0 (by decide +kernel) (Nat.le_of_ble_eq_true rfl) ?_
  have bp655428 := gB_any p655428
  refine G_aload_n 0 dr_cE_Exception_init4_0 rfl ?_
  refine G_aload_nN 1 dr_cE_Exception_init4_1 rfl ?_
  refine G_aload_nN 2 dr_cE_Exception_init4_2 rfl ?_
  refine G_iload_n 3 dr_cE_Exception_init4_3 rfl ?_
  refine G_iload 4 dr_cE_Exception_init4_4 rfl ?_
  refine Gw_callI (As := [.null, .null, .int 0, .int 0]) (gV_ok D I) (cp_655436_Throwable_init l hl0 D I P655425 F655426 q655427 p655428 p655429 hmq655427 heq655427 bp655429) dr_cE_Exception_init4_6 ⟨wr_9_119, wr_1_23, wr_9_121, by decide, rfl, (Nat.le_of_ble_eq_true rfl), (Nat.le_of_ble_eq_true rfl)⟩ wr_9_120 rfl (show 0 + 0 ≤ 0 by first | omega | decide) (show 0 + 0 ≤ 0 by first | omega | decide) (Nat.le_of_ble_eq_true rfl) (fun r655566 w655567 dc655563 ds655564 hp655565 => ?_)
  obtain ⟨F655568, rfl, rfl, hfr655570, he655571, hdc, hds⟩ := hp655565
  have hfr655572 : rFr [q655427] P655425 F655426 F655568 := rFr_call (rSub_rf (P := P655425)) (rFr_rf (W := []) (P := P655425) (F := F655426)) hfr655570 (fun b hb hn => ⟨nm_n, (nm_c (fun e => hn (e ▸ List.mem_cons_self)) nm_n)⟩)
  change G _ _ _ _ _ _ _ _ _ _ _
  refine G_widen (cs' := 0) (sl' := 0) (by omega) (by omega) ?_
  exact G_vretA dr_cE_Exception_init4_9 rfl (Nat.le_of_ble_eq_true rfl) (Nat.le_of_ble_eq_true rfl) ⟨F655568, rfl, rfl, hfr655572, he655571, (Nat.le_of_ble_eq_true rfl), (Nat.le_of_ble_eq_true rfl)⟩
abbrev ky_655424_RuntimeException_init : gKey := (cE_RuntimeException_init4, 5, "java/lang/RuntimeException", none, [], "<init>", fun _ _ => True)
def pp_655424_RuntimeException_init (D : va_G) (I : FieldType → ClassId) (P655419 : List Nat) (F655420 : Nat → va_E) (q655421 : Nat) (p655422 : Int32) (p655423 : Int32) : Option Value → va_W → Nat → Nat → Prop := fun r w dc ds => ∃ (F655586 : Nat → va_E), r = none ∧ w = va_pl P655419 F655586 ∧ rFr [q655421] P655419 F655420 F655586 ∧ F655586 q655421 = .inr (21, [.null, .null, .null, .null, .null, .int p655422, .int p655423]) ∧ dc ≤ 0 ∧ ds ≤ 0
set_option maxRecDepth 100000 in
set_option maxHeartbeats 4000000 in
theorem cp_655424_RuntimeException_init (l : Launch) (hl0 : l.stackTraces = false) (D : va_G) (I : FieldType → ClassId) (P655419 : List Nat) (F655420 : Nat → va_E) (q655421 : Nat) (p655422 : Int32) (p655423 : Int32) (hmq655421 : q655421 ∈ P655419) (heq655421 : F655420 q655421 = .inr (21, [.null, .null, .null, .null, .null, .int p655422, .int p655423])) (bp655423 : gB p655423 0 8192) : CtA (gV D I) l yE_RuntimeException_init4 cE_RuntimeException_init4 5 none 3 60 0 0 [.ref q655421, .null, .null, .int 0, .int 0] (va_pl P655419 F655420) (pp_655424_RuntimeException_init D I P655419 F655420 q655421 p655422 p655423) gNA := by
  refine CtA_ofF hl0 (by decide +kernel) (Nat.le_of_ble_eq_true rfl) ?_
  have bp655422 := gB_any p655422
  refine G_aload_n 0 dr_cE_RuntimeException_init4_0 rfl ?_
  refine G_aload_nN 1 dr_cE_RuntimeException_init4_1 rfl ?_
  refine G_aload_nN 2 dr_cE_RuntimeException_init4_2 rfl ?_
  refine G_iload_n 3 dr_cE_RuntimeException_init4_3 rfl ?_
  refine G_iload 4 dr_cE_RuntimeException_init4_4 rfl ?_
  refine Gw_callI (As := [.null, .null, .int 0, .int 0]) (gV_ok D I) (cp_655430_Exception_init l hl0 D I P655419 F655420 q655421 p655422 p655423 hmq655421 heq655421 bp655423) dr_cE_RuntimeException_init4_6 ⟨wr_9_116, wr_1_24, wr_9_118, by decide, rfl, (Nat.le_of_ble_eq_true rfl), (Nat.le_of_ble_eq_true rfl)⟩ wr_9_117 rfl (show 0 + 0 ≤ 0 by first | omega | decide) (show 0 + 0 ≤ 0 by first | omega | decide) (Nat.le_of_ble_eq_true rfl) (fun r655578 w655579 dc655575 ds655576 hp655577 => ?_)
  obtain ⟨F655580, rfl, rfl, hfr655582, he655583, hdc, hds⟩ := hp655577
  have hfr655584 : rFr [q655421] P655419 F655420 F655580 := rFr_call (rSub_rf (P := P655419)) (rFr_rf (W := []) (P := P655419) (F := F655420)) hfr655582 (fun b hb hn => ⟨nm_n, (nm_c (fun e => hn (e ▸ List.mem_cons_self)) nm_n)⟩)
  change G _ _ _ _ _ _ _ _ _ _ _
  refine G_widen (cs' := 0) (sl' := 0) (by omega) (by omega) ?_
  exact G_vretA dr_cE_RuntimeException_init4_9 rfl (Nat.le_of_ble_eq_true rfl) (Nat.le_of_ble_eq_true rfl) ⟨F655580, rfl, rfl, hfr655584, he655583, (Nat.le_of_ble_eq_true rfl), (Nat.le_of_ble_eq_true rfl)⟩
abbrev ky_655418_Wrong_init : gKey := (cX16_init, 2, "SpillForgeModel$Wrong", none, [], "<init>", fun _ _ => True)
def pp_655418_Wrong_init (D : va_G) (I : FieldType → ClassId) (P655412 : List Nat) (F655413 : Nat → va_E) (q655414 : Nat) (p655415 : Int32) (p655416 : Int32) (p655417 : Int32) : Option Value → va_W → Nat → Nat → Prop := fun r w dc ds => ∃ (F655603 : Nat → va_E), r = none ∧ w = va_pl P655412 F655603 ∧ rFr [q655414] P655412 F655413 F655603 ∧ F655603 q655414 = .inr (21, [.null, .null, .null, .null, .null, .int p655416, .int p655415]) ∧ dc ≤ 0 ∧ ds ≤ 0
set_option maxRecDepth 100000 in
set_option maxHeartbeats 4000000 in
theorem cp_655418_Wrong_init (l : Launch) (hl0 : l.stackTraces = false) (D : va_G) (I : FieldType → ClassId) (P655412 : List Nat) (F655413 : Nat → va_E) (q655414 : Nat) (p655415 : Int32) (p655416 : Int32) (p655417 : Int32) (hmq655414 : q655414 ∈ P655412) (heq655414 : F655413 q655414 = .inr (21, [.null, .null, .null, .null, .null, .int p655416, .int p655417])) (bp655417 : gB p655417 0 8192) : CtA (gV D I) l yX16_init cX16_init 2 none 4 84 0 0 [.ref q655414, .int p655415] (va_pl P655412 F655413) (pp_655418_Wrong_init D I P655412 F655413 q655414 p655415 p655416 p655417) gNA := by
  refine CtA_of hl0 (by decide) (Nat.le_of_ble_eq_true rfl) ?_
  have bp655415 := gB_any p655415
  have bp655416 := gB_any p655416
  refine G_aload_n 0 dr_cX16_init_0 rfl ?_
  refine G_null dr_cX16_init_1 ?_
  refine G_null dr_cX16_init_2 ?_
  refine G_iconst 0 dr_cX16_init_3 (by decide +kernel) ?_
  refine G_iconst 0 dr_cX16_init_4 (by decide +kernel) ?_
  refine Gw_callI (As := [.null, .null, .int 0, .int 0]) (gV_ok D I) (cp_655424_RuntimeException_init l hl0 D I P655412 F655413 q655414 p655416 p655417 hmq655414 heq655414 bp655417) dr_cX16_init_5 ⟨wr_9_113, wr_1_25, wr_9_115, by decide, rfl, (Nat.le_of_ble_eq_true rfl), (Nat.le_of_ble_eq_true rfl)⟩ wr_9_114 rfl (show 0 + 0 ≤ 0 by first | omega | decide) (show 0 + 0 ≤ 0 by first | omega | decide) (Nat.le_of_ble_eq_true rfl) (fun r655590 w655591 dc655587 ds655588 hp655589 => ?_)
  obtain ⟨F655592, rfl, rfl, hfr655594, he655595, hdc, hds⟩ := hp655589
  have hfr655596 : rFr [q655414] P655412 F655413 F655592 := rFr_call (rSub_rf (P := P655412)) (rFr_rf (W := []) (P := P655412) (F := F655413)) hfr655594 (fun b hb hn => ⟨nm_n, (nm_c (fun e => hn (e ▸ List.mem_cons_self)) nm_n)⟩)
  change G _ _ _ _ _ _ _ _ _ _ _
  refine G_widen (cs' := 0) (sl' := 0) (by omega) (by omega) ?_
  refine G_aload_n 0 dr_cX16_init_8 rfl ?_
  refine G_iload_n 1 dr_cX16_init_9 rfl ?_
  refine Gp_putF 6 hmq655414 he655595 dr_cX16_init_10 (gk_X16 D I) (Nat.le_of_ble_eq_true rfl) wr_9_122 rfl rfl rfl rfl rfl (Nat.le_of_ble_eq_true rfl) (fun F655597 e655598 n655599 => ?_)
  have he655600 : F655597 q655414 = .inr (21, [.null, .null, .null, .null, .null, .int p655416, .int p655415]) := e655598
  have hfr655601 : rFr [q655414] P655412 F655413 F655597 := rFr_put' List.mem_cons_self hfr655596 n655599
  exact G_vretA dr_cX16_init_13 rfl (Nat.le_of_ble_eq_true rfl) (Nat.le_of_ble_eq_true rfl) ⟨F655597, rfl, rfl, hfr655601, he655600, (Nat.le_of_ble_eq_true rfl), (Nat.le_of_ble_eq_true rfl)⟩
abbrev ky_655395_Reader_no : gKey := (cX14_no, 1, "SpillForgeModel$Reader", (some (FieldType.object "SpillForgeModel$Wrong")), [], "no", fun _ _ => True)
def pp_655395_Reader_no (D : va_G) (I : FieldType → ClassId) (P655377 : List Nat) (F655378 : Nat → va_E) (q655379 : Nat) (q655380 : Nat) (p655381 : Int32) (p655382 : Int32) (p655383 : Int32) (p655384 : Int32) (p655385 : Int32) (p655386 : Int32) (qo655387 : Nat) (p655388 : Int32) (p655389 : Int32) (p655390 : Int32) (qo655391 : Nat) (qo655392 : Nat) (p655393 : Int32) (f655394 : Nat → Int32) : Option Value → va_W → Nat → Nat → Prop := fun r w dc ds => ∃ (P655617 : List Nat) (F655618 : Nat → va_E) (q655616 : Nat), r = some (.ref q655616) ∧ w = va_pl P655617 F655618 ∧ rSub P655377 P655617 ∧ rFr [] P655377 F655378 F655618 ∧ F655618 q655379 = .inr (19, [.ref q655380, .int p655381, .int p655382, .int p655383, .int p655384, .int p655385, .int p655386, .ref qo655387, .int p655388, .int p655389, .int p655390, .ref qo655391, .ref qo655392, .int p655393]) ∧ F655618 q655380 = .inl (I .byte, 8192, .inl f655394) ∧ F655618 q655616 = .inr (21, [.null, .null, .null, .null, .null, .int 0, .int p655384]) ∧ q655616 ∈ P655617 ∧ q655616 ∉ P655377 ∧ dc ≤ 1 ∧ ds ≤ 7
set_option maxRecDepth 100000 in
set_option maxHeartbeats 4000000 in
theorem cp_655395_Reader_no (l : Launch) (hl0 : l.stackTraces = false) (D : va_G) (I : FieldType → ClassId) (P655377 : List Nat) (F655378 : Nat → va_E) (q655379 : Nat) (q655380 : Nat) (p655381 : Int32) (p655382 : Int32) (p655383 : Int32) (p655384 : Int32) (p655385 : Int32) (p655386 : Int32) (qo655387 : Nat) (p655388 : Int32) (p655389 : Int32) (p655390 : Int32) (qo655391 : Nat) (qo655392 : Nat) (p655393 : Int32) (f655394 : Nat → Int32) (hmq655379 : q655379 ∈ P655377) (hmq655380 : q655380 ∈ P655377) (heq655379 : F655378 q655379 = .inr (19, [.ref q655380, .int p655381, .int p655382, .int p655383, .int p655384, .int p655385, .int p655386, .ref qo655387, .int p655388, .int p655389, .int p655390, .ref qo655391, .ref qo655392, .int p655393])) (heq655380 : F655378 q655380 = .inl (I .byte, 8192, .inl f655394)) (bp655381 : gB p655381 0 8192) (bp655382 : gB p655382 0 8192) (bp655383 : gB p655383 0 6) (bp655384 : gB p655384 0 8192) (bp655386 : gB p655386 0 6) (bp655388 : gB p655388 (-1) 8192) (bp655389 : gB p655389 0 4) (bp655390 : gB p655390 0 1000000) (bp655393 : gB p655393 0 1000000) (bf655394 : gF f655394 (-128) 127) : CtA (gV D I) l yX14_no cX14_no 1 (some (FieldType.object "SpillForgeModel$Wrong")) 5 105 1 7 [.ref q655379] (va_pl P655377 F655378) (pp_655395_Reader_no D I P655377 F655378 q655379 q655380 p655381 p655382 p655383 p655384 p655385 p655386 qo655387 p655388 p655389 p655390 qo655391 qo655392 p655393 f655394) gNA := by
  refine CtA_of hl0 (by decide) (Nat.le_of_ble_eq_true rfl) ?_
  have bp655385 := gB_any p655385
  refine G_new [.null, .null, .null, .null, .null, .int 0, .int 0] dr_cX14_no_0 (gk_X16 D I) wr_9_101 wr_9_102 wr_1_37 (gfs_X16) (show 0 + 1 ≤ 1 by first | omega | decide) (show 0 + 7 ≤ 7 by first | omega | decide) (fun q655396 => Gp_in (fun P655397 F655398 hq655399 hP655400 e655401 n655402 => ?_))
  refine G_widen (cs' := 1) (sl' := 7) (by omega) (by omega) ?_
  have he655403 : F655398 q655379 = .inr (19, [.ref q655380, .int p655381, .int p655382, .int p655383, .int p655384, .int p655385, .int p655386, .ref qo655387, .int p655388, .int p655389, .int p655390, .ref qo655391, .ref qo655392, .int p655393]) := (n655402 q655379 (fun h => hq655399 (h ▸ hmq655379))).trans heq655379
  have he655404 : F655398 q655380 = .inl (I .byte, 8192, .inl f655394) := (n655402 q655380 (fun h => hq655399 (h ▸ hmq655380))).trans heq655380
  have he655405 : F655398 q655396 = .inr (21, [.null, .null, .null, .null, .null, .int 0, .int 0]) := e655401
  have hm655406 : q655379 ∈ P655397 := (hP655400 q655379).mpr (Or.inl hmq655379)
  have hm655407 : q655380 ∈ P655397 := (hP655400 q655380).mpr (Or.inl hmq655380)
  have hm655408 : q655396 ∈ P655397 := (hP655400 q655396).mpr (Or.inr rfl)
  have hq655409 : q655396 ∉ P655377 := fun z => hq655399 ((rSub_rf (P := P655377)) q655396 z)
  have hfr655410 : rFr [] P655377 F655378 F655398 := rFr_new (rSub_rf (P := P655377)) hq655399 (rFr_rf (W := []) (P := P655377) (F := F655378)) n655402
  have hsb655411 : rSub P655377 P655397 := rSub_new (rSub_rf (P := P655377)) hP655400
  refine G_dup dr_cX14_no_3 rfl ?_
  refine G_aload_n 0 dr_cX14_no_4 rfl ?_
  refine Gp_get 4 hm655406 he655403 dr_cX14_no_5 (gk_X14 D I) (Nat.le_of_ble_eq_true rfl) wr_9_40 rfl ?_
  refine Gw_callI (As := [.int p655384]) (gV_ok D I) (cp_655418_Wrong_init l hl0 D I P655397 F655398 q655396 p655384 0 0 hm655408 he655405 (gB_w (gBl (show Int32.toInt 0 = 0 by decide)) (by decide) (by decide))) dr_cX14_no_8 ⟨wr_9_110, wr_1_37, wr_9_112, by decide, rfl, (Nat.le_of_ble_eq_true rfl), (Nat.le_of_ble_eq_true rfl)⟩ wr_9_111 rfl (show 1 + 0 ≤ 1 by first | omega | decide) (show 7 + 0 ≤ 7 by first | omega | decide) (Nat.le_of_ble_eq_true rfl) (fun r655607 w655608 dc655604 ds655605 hp655606 => ?_)
  obtain ⟨F655609, rfl, rfl, hfr655611, he655612, hdc, hds⟩ := hp655606
  have he655613 : F655609 q655379 = .inr (19, [.ref q655380, .int p655381, .int p655382, .int p655383, .int p655384, .int p655385, .int p655386, .ref qo655387, .int p655388, .int p655389, .int p655390, .ref qo655391, .ref qo655392, .int p655393]) := (hfr655611 q655379 hm655406 (nm_c (fun h => hq655409 (h ▸ hmq655379)) nm_n)).trans he655403
  have he655614 : F655609 q655380 = .inl (I .byte, 8192, .inl f655394) := (hfr655611 q655380 hm655407 (nm_c (fun h => hq655409 (h ▸ hmq655380)) nm_n)).trans he655404
  have hfr655615 : rFr [] P655377 F655378 F655609 := rFr_call hsb655411 hfr655410 hfr655611 (fun b hb hn => ⟨nm_n, (nm_c (fun e => hq655409 (e ▸ hb)) nm_n)⟩)
  change G _ _ _ _ _ _ _ _ _ _ _
  refine G_widen (cs' := 1) (sl' := 7) (by omega) (by omega) ?_
  exact G_aretA (FieldType.object "SpillForgeModel$Wrong") dr_cX14_no_11 rfl (by first | exact Or.inl ⟨_, rfl⟩ | exact Or.inr ⟨_, rfl⟩) (Or.inr ⟨_, rfl⟩) (Nat.le_of_ble_eq_true rfl) (Nat.le_of_ble_eq_true rfl) ⟨P655397, F655609, q655396, rfl, rfl, hsb655411, hfr655615, he655613, he655614, he655612, hm655408, hq655409, (Nat.le_of_ble_eq_true rfl), (Nat.le_of_ble_eq_true rfl)⟩
abbrev ky_655641_Reader_is : gKey := (cX14_is, 2, "SpillForgeModel$Reader", (some FieldType.boolean), [], "is", fun _ _ => True)
def pp_655641_Reader_is (D : va_G) (I : FieldType → ClassId) (P655619 : List Nat) (F655620 : Nat → va_E) (q655621 : Nat) (q655622 : Nat) (qs655623 : Nat) (qb655624 : Nat) (bs655625 : List Int32) (p655626 : Int32) (p655627 : Int32) (p655628 : Int32) (p655629 : Int32) (p655630 : Int32) (p655631 : Int32) (qo655632 : Nat) (p655633 : Int32) (p655634 : Int32) (p655635 : Int32) (qo655636 : Nat) (qo655637 : Nat) (p655638 : Int32) (f655639 : Nat → Int32) : Option Value → va_W → Nat → Nat → Prop := fun r w dc ds => ∃ (o655696 : Int32), r = some (.int o655696) ∧ w = va_pl P655619 F655620 ∧ dc ≤ 0 ∧ ds ≤ 0 ∧ gB o655696 0 1 ∧ isK p655628 o655696
set_option maxRecDepth 100000 in
set_option maxHeartbeats 4000000 in
theorem cp_655641_Reader_is (l : Launch) (hl0 : l.stackTraces = false) (D : va_G) (I : FieldType → ClassId) (P655619 : List Nat) (F655620 : Nat → va_E) (q655621 : Nat) (q655622 : Nat) (qs655623 : Nat) (qb655624 : Nat) (bs655625 : List Int32) (p655626 : Int32) (p655627 : Int32) (p655628 : Int32) (p655629 : Int32) (p655630 : Int32) (p655631 : Int32) (qo655632 : Nat) (p655633 : Int32) (p655634 : Int32) (p655635 : Int32) (qo655636 : Nat) (qo655637 : Nat) (p655638 : Int32) (f655639 : Nat → Int32) (hmq655621 : q655621 ∈ P655619) (hmq655622 : q655622 ∈ P655619) (heq655621 : F655620 q655621 = .inr (19, [.ref q655622, .int p655626, .int p655627, .int p655628, .int p655629, .int p655630, .int p655631, .ref qo655632, .int p655633, .int p655634, .int p655635, .ref qo655636, .ref qo655637, .int p655638])) (heq655622 : F655620 q655622 = .inl (I .byte, 8192, .inl f655639)) (hbs655625 : ∀ A s H, (gV D I).2.2.2.1 A s H → gSC qs655623 qb655624 bs655625 A s H) (nbs655625 : (bs655625.length : Int) ≤ 65535) (lbs655625 : gLB bs655625) (bp655626 : gB p655626 0 8192) (bp655627 : gB p655627 0 8192) (bp655628 : gB p655628 0 6) (bp655629 : gB p655629 0 8192) (bp655631 : gB p655631 0 6) (bp655633 : gB p655633 (-1) 8192) (bp655634 : gB p655634 0 4) (bp655635 : gB p655635 0 1000000) (bp655638 : gB p655638 0 1000000) (bf655639 : gF f655639 (-128) 127) (x655640 : tP I P655619 F655620 p655628 qo655632 qo655637 qo655636) : CtA (gV D I) l yX14_is cX14_is 2 (some FieldType.boolean) 2 44 0 0 [.ref q655621, .ref qs655623] (va_pl P655619 F655620) (pp_655641_Reader_is D I P655619 F655620 q655621 q655622 qs655623 qb655624 bs655625 p655626 p655627 p655628 p655629 p655630 p655631 qo655632 p655633 p655634 p655635 qo655636 qo655637 p655638 f655639) gNA := by
  refine CtA_of hl0 (by decide) (Nat.le_of_ble_eq_true rfl) ?_
  have bp655630 := gB_any p655630
  refine G_aload_n 0 dr_cX14_is_0 rfl ?_
  refine Gp_get 3 hmq655621 heq655621 dr_cX14_is_1 (gk_X14 D I) (Nat.le_of_ble_eq_true rfl) wr_9_39 rfl ?_
  refine G_iconst 5 dr_cX14_is_4 (by decide +kernel) ?_
  refine G_icmp_eq 16 dr_cX14_is_5 (by decide +kernel) (fun hc655642 => ?_) (fun hc655642 => ?_)
  · have r655643 : p655628.toInt = 5 := gj_eq hc655642 (show Int32.toInt 5 = 5 by decide)
    have bp655628' : gB p655628 5 5 := ⟨by omega, by omega⟩
    refine G_aload_n 0 dr_cX14_is_16 rfl ?_
    refine Gp_get 7 hmq655621 heq655621 dr_cX14_is_17 (gk_X14 D I) (Nat.le_of_ble_eq_true rfl) wr_9_43 rfl ?_
    obtain ⟨q655644, n655645, f655646, p655647, p655648, hm655649, he655650, hm655651, he655652, bf655646, x655653, bp655648, hg655654, hg655655⟩ := x655640.2 (by omega)
    have bp655647 := gB_any p655647
    refine G_aload_n 1 dr_cX14_is_20 rfl ?_
    refine Gw_callV (As := [.ref qs655623]) (gV_ok D I) (cp_641575_String_equals l hl0 D I P655619 F655620 qo655632 q655644 qs655623 qb655624 bs655625 p655647 p655648 f655646 n655645 hm655649 hm655651 he655650 he655652 hbs655625 nbs655625 lbs655625 bp655648 bf655646 (by have qa0 : Int32.toInt 0 = 0 := (by decide); omega)) dr_cX14_is_21 ⟨wr_9_145, wr_1_21, wr_9_148, by decide, rfl, (Nat.le_of_ble_eq_true rfl), (Nat.le_of_ble_eq_true rfl)⟩ wr_9_146 wr_9_147 hm655649 he655650 rfl (show 0 + 0 ≤ 0 by first | omega | decide) (show 0 + 0 ≤ 0 by first | omega | decide) (Nat.le_of_ble_eq_true rfl) (fun r655659 w655660 dc655656 ds655657 hp655658 => ?_) (fun _ _ _ _ _ z => z.elim)
    rcases hp655658 with ⟨o655661, rfl, rfl, hdc, hds, r655662, r655663⟩ | ⟨o655664, rfl, rfl, hdc, hds, r655665, r655666⟩ | ⟨rfl, rfl, hdc, hds⟩
    · change G _ _ _ _ _ _ _ (.int 0 :: _) _ _ _
      refine G_widen (cs' := 0) (sl' := 0) (by omega) (by omega) ?_
      refine G_if_eq 31 dr_cX14_is_24 (by decide +kernel) (fun _ => ?_) (fun hc => absurd hc (by decide))
      refine G_iconst 0 dr_cX14_is_31 (by decide +kernel) ?_
      exact G_zretA FieldType.boolean dr_cX14_is_32 rfl rfl (Nat.le_of_ble_eq_true rfl) (Nat.le_of_ble_eq_true rfl) ⟨0, rfl, rfl, (Nat.le_of_ble_eq_true rfl), (Nat.le_of_ble_eq_true rfl), (gB_w (gBl (show Int32.toInt 0 = 0 by decide)) (by decide) (by decide)), (Or.inl (by decide))⟩
    · change G _ _ _ _ _ _ _ (.int 1 :: _) _ _ _
      refine G_widen (cs' := 0) (sl' := 0) (by omega) (by omega) ?_
      refine G_if_eq 31 dr_cX14_is_24 (by decide +kernel) (fun hc => absurd hc (by decide)) (fun _ => ?_)
      refine G_iconst 1 dr_cX14_is_27 (by decide +kernel) ?_
      refine G_goto 32 dr_cX14_is_28 (by decide +kernel) ?_
      exact G_zretA FieldType.boolean dr_cX14_is_32 rfl rfl (Nat.le_of_ble_eq_true rfl) (Nat.le_of_ble_eq_true rfl) ⟨1, rfl, rfl, (Nat.le_of_ble_eq_true rfl), (Nat.le_of_ble_eq_true rfl), (gB_w (gBl (show Int32.toInt 1 = 1 by decide)) (by decide) (by decide)), (Or.inr (by omega))⟩
    · change G _ _ _ _ _ _ _ (.int 1 :: _) _ _ _
      refine G_widen (cs' := 0) (sl' := 0) (by omega) (by omega) ?_
      refine G_if_eq 31 dr_cX14_is_24 (by decide +kernel) (fun hc => absurd hc (by decide)) (fun _ => ?_)
      refine G_iconst 1 dr_cX14_is_27 (by decide +kernel) ?_
      refine G_goto 32 dr_cX14_is_28 (by decide +kernel) ?_
      exact G_zretA FieldType.boolean dr_cX14_is_32 rfl rfl (Nat.le_of_ble_eq_true rfl) (Nat.le_of_ble_eq_true rfl) ⟨1, rfl, rfl, (Nat.le_of_ble_eq_true rfl), (Nat.le_of_ble_eq_true rfl), (gB_w (gBl (show Int32.toInt 1 = 1 by decide)) (by decide) (by decide)), (Or.inr (by omega))⟩
  · have r655668 : p655628.toInt ≠ 5 := gj_neq hc655642 (show Int32.toInt 5 = 5 by decide)
    refine G_aload_n 0 dr_cX14_is_8 rfl ?_
    refine Gp_get 3 hmq655621 heq655621 dr_cX14_is_9 (gk_X14 D I) (Nat.le_of_ble_eq_true rfl) wr_9_39 rfl ?_
    refine G_iconst 1 dr_cX14_is_12 (by decide +kernel) ?_
    refine G_icmp_ne 31 dr_cX14_is_13 (by decide +kernel) (fun hc655669 => ?_) (fun hc655669 => ?_)
    · have r655670 : p655628.toInt ≠ 1 := gj_neq hc655669 (show Int32.toInt 1 = 1 by decide)
      refine G_iconst 0 dr_cX14_is_31 (by decide +kernel) ?_
      exact G_zretA FieldType.boolean dr_cX14_is_32 rfl rfl (Nat.le_of_ble_eq_true rfl) (Nat.le_of_ble_eq_true rfl) ⟨0, rfl, rfl, (Nat.le_of_ble_eq_true rfl), (Nat.le_of_ble_eq_true rfl), (gB_w (gBl (show Int32.toInt 0 = 0 by decide)) (by decide) (by decide)), (Or.inl (by decide))⟩
    · have r655671 : p655628.toInt = 1 := gj_eq hc655669 (show Int32.toInt 1 = 1 by decide)
      have bp655628' : gB p655628 1 1 := ⟨by omega, by omega⟩
      refine G_aload_n 0 dr_cX14_is_16 rfl ?_
      refine Gp_get 7 hmq655621 heq655621 dr_cX14_is_17 (gk_X14 D I) (Nat.le_of_ble_eq_true rfl) wr_9_43 rfl ?_
      obtain ⟨q655672, n655673, f655674, p655675, p655676, hm655677, he655678, hm655679, he655680, bf655674, x655681, bp655676, hg655682, hg655683⟩ := x655640.1 (by omega)
      have bp655675 := gB_any p655675
      refine G_aload_n 1 dr_cX14_is_20 rfl ?_
      refine Gw_callV (As := [.ref qs655623]) (gV_ok D I) (cp_641575_String_equals l hl0 D I P655619 F655620 qo655632 q655672 qs655623 qb655624 bs655625 p655675 p655676 f655674 n655673 hm655677 hm655679 he655678 he655680 hbs655625 nbs655625 lbs655625 bp655676 bf655674 (by have qa0 : Int32.toInt 0 = 0 := (by decide); omega)) dr_cX14_is_21 ⟨wr_9_145, wr_1_21, wr_9_148, by decide, rfl, (Nat.le_of_ble_eq_true rfl), (Nat.le_of_ble_eq_true rfl)⟩ wr_9_146 wr_9_147 hm655677 he655678 rfl (show 0 + 0 ≤ 0 by first | omega | decide) (show 0 + 0 ≤ 0 by first | omega | decide) (Nat.le_of_ble_eq_true rfl) (fun r655687 w655688 dc655684 ds655685 hp655686 => ?_) (fun _ _ _ _ _ z => z.elim)
      rcases hp655686 with ⟨o655689, rfl, rfl, hdc, hds, r655690, r655691⟩ | ⟨o655692, rfl, rfl, hdc, hds, r655693, r655694⟩ | ⟨rfl, rfl, hdc, hds⟩
      · change G _ _ _ _ _ _ _ (.int 0 :: _) _ _ _
        refine G_widen (cs' := 0) (sl' := 0) (by omega) (by omega) ?_
        refine G_if_eq 31 dr_cX14_is_24 (by decide +kernel) (fun _ => ?_) (fun hc => absurd hc (by decide))
        refine G_iconst 0 dr_cX14_is_31 (by decide +kernel) ?_
        exact G_zretA FieldType.boolean dr_cX14_is_32 rfl rfl (Nat.le_of_ble_eq_true rfl) (Nat.le_of_ble_eq_true rfl) ⟨0, rfl, rfl, (Nat.le_of_ble_eq_true rfl), (Nat.le_of_ble_eq_true rfl), (gB_w (gBl (show Int32.toInt 0 = 0 by decide)) (by decide) (by decide)), (Or.inl (by decide))⟩
      · change G _ _ _ _ _ _ _ (.int 1 :: _) _ _ _
        refine G_widen (cs' := 0) (sl' := 0) (by omega) (by omega) ?_
        refine G_if_eq 31 dr_cX14_is_24 (by decide +kernel) (fun hc => absurd hc (by decide)) (fun _ => ?_)
        refine G_iconst 1 dr_cX14_is_27 (by decide +kernel) ?_
        refine G_goto 32 dr_cX14_is_28 (by decide +kernel) ?_
        exact G_zretA FieldType.boolean dr_cX14_is_32 rfl rfl (Nat.le_of_ble_eq_true rfl) (Nat.le_of_ble_eq_true rfl) ⟨1, rfl, rfl, (Nat.le_of_ble_eq_true rfl), (Nat.le_of_ble_eq_true rfl), (gB_w (gBl (show Int32.toInt 1 = 1 by decide)) (by decide) (by decide)), (Or.inr (by omega))⟩
      · change G _ _ _ _ _ _ _ (.int 1 :: _) _ _ _
        refine G_widen (cs' := 0) (sl' := 0) (by omega) (by omega) ?_
        refine G_if_eq 31 dr_cX14_is_24 (by decide +kernel) (fun hc => absurd hc (by decide)) (fun _ => ?_)
        refine G_iconst 1 dr_cX14_is_27 (by decide +kernel) ?_
        refine G_goto 32 dr_cX14_is_28 (by decide +kernel) ?_
        exact G_zretA FieldType.boolean dr_cX14_is_32 rfl rfl (Nat.le_of_ble_eq_true rfl) (Nat.le_of_ble_eq_true rfl) ⟨1, rfl, rfl, (Nat.le_of_ble_eq_true rfl), (Nat.le_of_ble_eq_true rfl), (gB_w (gBl (show Int32.toInt 1 = 1 by decide)) (by decide) (by decide)), (Or.inr (by omega))⟩
abbrev ky_655722_Reader_want : gKey := (cX14_want, 2, "SpillForgeModel$Reader", none, [], "want", fun _ _ => True)
def pp_655722_Reader_want (D : va_G) (I : FieldType → ClassId) (P655697 : List Nat) (F655698 : Nat → va_E) (q655699 : Nat) (q655700 : Nat) (qs655701 : Nat) (qb655702 : Nat) (bs655703 : List Int32) (p655704 : Int32) (p655705 : Int32) (p655706 : Int32) (p655707 : Int32) (p655708 : Int32) (p655709 : Int32) (qo655710 : Nat) (p655711 : Int32) (p655712 : Int32) (p655713 : Int32) (qo655714 : Nat) (qo655715 : Nat) (p655716 : Int32) (f655717 : Nat → Int32) : Option Value → va_W → Nat → Nat → Prop := fun r w dc ds => ∃ (P655784 : List Nat) (F655785 : Nat → va_E) (o655779 : Int32) (o655780 : Int32) (o655781 : Int32) (o655782 : Int32) (q655783 : Nat), r = none ∧ w = va_pl P655784 F655785 ∧ rSub P655697 P655784 ∧ rFr [q655699] P655697 F655698 F655785 ∧ F655785 q655699 = .inr (19, [.ref q655700, .int p655704, .int o655779, .int o655780, .int o655781, .int o655782, .int p655706, .ref q655783, .int p655711, .int p655712, .int p655713, .ref qo655714, .ref qo655715, .int p655716]) ∧ F655785 q655700 = .inl (I .byte, 8192, .inl f655717) ∧ dc ≤ (16 * (o655779.toInt - p655705.toInt)).toNat ∧ ds ≤ (160 * (o655779.toInt - p655705.toInt)).toNat ∧ gB o655779 0 8192 ∧ gB o655780 0 6 ∧ gB o655781 0 8192 ∧ p655705.toInt ≤ o655779.toInt ∧ prP o655780 p655705 o655779 ∧ o655779.toInt ≤ p655704.toInt ∧ tP I P655784 F655785 o655780 q655783 qo655715 qo655714 ∧ vP o655780 o655782 ∧ nzK p655706
def xp_655722_Reader_want (D : va_G) (I : FieldType → ClassId) (P655697 : List Nat) (F655698 : Nat → va_E) (q655699 : Nat) (q655700 : Nat) (qs655701 : Nat) (qb655702 : Nat) (bs655703 : List Int32) (p655704 : Int32) (p655705 : Int32) (p655706 : Int32) (p655707 : Int32) (p655708 : Int32) (p655709 : Int32) (qo655710 : Nat) (p655711 : Int32) (p655712 : Int32) (p655713 : Int32) (qo655714 : Nat) (qo655715 : Nat) (p655716 : Int32) (f655717 : Nat → Int32) : String → Nat → va_W → Nat → Nat → Prop := fun E q w dc ds => ∃ (P655787 : List Nat) (F655786 : Nat → va_E), E = "SpillForgeModel$Wrong" ∧ w = va_pl P655787 F655786 ∧ rSub P655697 P655787 ∧ rFr [] P655697 F655698 F655786 ∧ q ∈ P655787 ∧ q ∉ P655697 ∧ wrF F655786 q ∧ dc ≤ (16 * (p655704.toInt - p655705.toInt)).toNat + 1 ∧ ds ≤ (160 * (p655704.toInt - p655705.toInt)).toNat + 7
set_option maxRecDepth 100000 in
set_option maxHeartbeats 4000000 in
theorem cp_655722_Reader_want (l : Launch) (hl0 : l.stackTraces = false) (D : va_G) (I : FieldType → ClassId) (P655697 : List Nat) (F655698 : Nat → va_E) (q655699 : Nat) (q655700 : Nat) (qs655701 : Nat) (qb655702 : Nat) (bs655703 : List Int32) (p655704 : Int32) (p655705 : Int32) (p655706 : Int32) (p655707 : Int32) (p655708 : Int32) (p655709 : Int32) (qo655710 : Nat) (p655711 : Int32) (p655712 : Int32) (p655713 : Int32) (qo655714 : Nat) (qo655715 : Nat) (p655716 : Int32) (f655717 : Nat → Int32) (hmq655699 : q655699 ∈ P655697) (hmq655700 : q655700 ∈ P655697) (heq655699 : F655698 q655699 = .inr (19, [.ref q655700, .int p655704, .int p655705, .int p655706, .int p655707, .int p655708, .int p655709, .ref qo655710, .int p655711, .int p655712, .int p655713, .ref qo655714, .ref qo655715, .int p655716])) (heq655700 : F655698 q655700 = .inl (I .byte, 8192, .inl f655717)) (hbs655703 : ∀ A s H, (gV D I).2.2.2.1 A s H → gSC qs655701 qb655702 bs655703 A s H) (nbs655703 : (bs655703.length : Int) ≤ 65535) (lbs655703 : gLB bs655703) (bp655704 : gB p655704 0 8192) (bp655705 : gB p655705 0 8192) (bp655706 : gB p655706 0 6) (bp655707 : gB p655707 0 8192) (bp655709 : gB p655709 0 6) (bp655711 : gB p655711 (-1) 8192) (bp655712 : gB p655712 0 4) (bp655713 : gB p655713 0 1000000) (bp655716 : gB p655716 0 1000000) (bf655717 : gF f655717 (-128) 127) (x655718 : p655705.toInt ≤ p655704.toInt) (x655719 : qo655715 ∈ P655697) (x655720 : qo655714 ∈ P655697) (x655721 : tP I P655697 F655698 p655706 qo655710 qo655715 qo655714) : CtA (gV D I) l yX14_want cX14_want 2 none 8 177 ((16 * (p655704.toInt - p655705.toInt)).toNat + 1) ((160 * (p655704.toInt - p655705.toInt)).toNat + 7) [.ref q655699, .ref qs655701] (va_pl P655697 F655698) (pp_655722_Reader_want D I P655697 F655698 q655699 q655700 qs655701 qb655702 bs655703 p655704 p655705 p655706 p655707 p655708 p655709 qo655710 p655711 p655712 p655713 qo655714 qo655715 p655716 f655717) (xp_655722_Reader_want D I P655697 F655698 q655699 q655700 qs655701 qb655702 bs655703 p655704 p655705 p655706 p655707 p655708 p655709 qo655710 p655711 p655712 p655713 qo655714 qo655715 p655716 f655717) := by
  refine CtA_of hl0 (by decide) (Nat.le_of_ble_eq_true rfl) ?_
  have bp655708 := gB_any p655708
  refine G_aload_n 0 dr_cX14_want_0 rfl ?_
  refine G_aload_n 1 dr_cX14_want_1 rfl ?_
  refine Gw_callV (As := [.ref qs655701]) (gV_ok D I) (cp_655641_Reader_is l hl0 D I P655697 F655698 q655699 q655700 qs655701 qb655702 bs655703 p655704 p655705 p655706 p655707 p655708 p655709 qo655710 p655711 p655712 p655713 qo655714 qo655715 p655716 f655717 hmq655699 hmq655700 heq655699 heq655700 hbs655703 nbs655703 lbs655703 bp655704 bp655705 bp655706 bp655707 bp655709 bp655711 bp655712 bp655713 bp655716 bf655717 x655721) dr_cX14_want_2 ⟨wr_9_141, wr_1_32, wr_9_144, by decide, rfl, (Nat.le_of_ble_eq_true rfl), (Nat.le_of_ble_eq_true rfl)⟩ wr_9_143 wr_p_84 hmq655699 heq655699 rfl (show 0 + 0 ≤ ((16 * (p655704.toInt - p655705.toInt)).toNat + 1) by first | omega | decide) (show 0 + 0 ≤ ((160 * (p655704.toInt - p655705.toInt)).toNat + 7) by first | omega | decide) (Nat.le_of_ble_eq_true rfl) (fun r655726 w655727 dc655723 ds655724 hp655725 => ?_) (fun _ _ _ _ _ z => z.elim)
  obtain ⟨o655728, rfl, rfl, hdc, hds, bo655728, x655729⟩ := hp655725
  change G _ _ _ _ _ _ _ (.int o655728 :: _) _ _ _
  refine G_widen (cs' := 0) (sl' := 0) (by omega) (by omega) ?_
  refine G_if_ne 13 dr_cX14_want_5 (by decide +kernel) (fun hc655730 => ?_) (fun hc655730 => ?_)
  · have r655731 : o655728.toInt ≠ 0 := gj_neq hc655730 (show Int32.toInt 0 = 0 by decide)
    have bo655728' : gB o655728 1 1 := ⟨by omega, by omega⟩
    refine G_aload_n 0 dr_cX14_want_13 rfl ?_
    refine Gw_callV (As := []) (gV_ok D I) (cp_653764_Reader_next l hl0 D I P655697 F655698 q655699 q655700 p655704 p655705 p655706 p655707 p655708 p655709 qo655710 p655711 p655712 p655713 qo655714 qo655715 p655716 f655717 hmq655699 hmq655700 heq655699 heq655700 bp655704 bp655705 bp655706 bp655707 bp655709 bp655711 bp655712 bp655713 bp655716 bf655717 (by omega) x655719 x655720) dr_cX14_want_14 ⟨wr_7_215, wr_1_32, wr_7_218, by decide, rfl, (Nat.le_of_ble_eq_true rfl), (Nat.le_of_ble_eq_true rfl)⟩ wr_7_217 wr_p_75 hmq655699 heq655699 rfl (show 0 + ((16 * (p655704.toInt - p655705.toInt)).toNat) ≤ ((16 * (p655704.toInt - p655705.toInt)).toNat + 1) by first | omega | decide) (show 0 + ((160 * (p655704.toInt - p655705.toInt)).toNat) ≤ ((160 * (p655704.toInt - p655705.toInt)).toNat + 7) by first | omega | decide) (Nat.le_of_ble_eq_true rfl) (fun r655735 w655736 dc655732 ds655733 hp655734 => ?_) (fun _ _ _ _ _ z => z.elim)
    obtain ⟨P655747, F655748, o655737, o655738, o655739, o655740, q655741, rfl, rfl, hsb655749, hfr655750, he655751, he655752, hdc, hds, bo655737, bo655738, bo655739, x655742, x655743, x655744, x655745, x655746⟩ := hp655734
    have hm655753 : q655699 ∈ P655747 := hsb655749 q655699 hmq655699
    have hm655754 : q655700 ∈ P655747 := hsb655749 q655700 hmq655700
    have hsb655755 : rSub P655697 P655747 := rSub_tr (rSub_rf (P := P655697)) hsb655749
    have hfr655756 : rFr [q655699] P655697 F655698 F655748 := rFr_call (rSub_rf (P := P655697)) (rFr_rf (W := []) (P := P655697) (F := F655698)) hfr655750 (fun b hb hn => ⟨nm_n, (nm_c (fun e => hn (e ▸ List.mem_cons_self)) nm_n)⟩)
    have bo655740 := gB_any o655740
    change G _ _ _ _ _ _ _ _ _ _ _
    refine G_widen (cs' := (16 * (o655737.toInt - p655705.toInt)).toNat) (sl' := (160 * (o655737.toInt - p655705.toInt)).toNat) (by omega) (by omega) ?_
    exact G_vretA dr_cX14_want_17 rfl (show (16 * (o655737.toInt - p655705.toInt)).toNat ≤ ((16 * (p655704.toInt - p655705.toInt)).toNat + 1) by omega) (show (160 * (o655737.toInt - p655705.toInt)).toNat ≤ ((160 * (p655704.toInt - p655705.toInt)).toNat + 7) by omega) ⟨P655747, F655748, o655737, o655738, o655739, o655740, q655741, rfl, rfl, hsb655755, hfr655756, he655751, he655752, (by omega), (by omega), bo655737, bo655738, bo655739, (by omega), x655743, (by omega), x655745, x655746, (isK_1 x655729 (by omega))⟩
  · have r655757 : o655728.toInt = 0 := gj_eq hc655730 (show Int32.toInt 0 = 0 by decide)
    have bo655728' : gB o655728 0 0 := ⟨by omega, by omega⟩
    refine G_aload_n 0 dr_cX14_want_8 rfl ?_
    refine Gw_callV (As := []) (gV_ok D I) (cp_655395_Reader_no l hl0 D I P655697 F655698 q655699 q655700 p655704 p655705 p655706 p655707 p655708 p655709 qo655710 p655711 p655712 p655713 qo655714 qo655715 p655716 f655717 hmq655699 hmq655700 heq655699 heq655700 bp655704 bp655705 bp655706 bp655707 bp655709 bp655711 bp655712 bp655713 bp655716 bf655717) dr_cX14_want_9 ⟨wr_9_97, wr_1_32, wr_9_100, by decide, rfl, (Nat.le_of_ble_eq_true rfl), (Nat.le_of_ble_eq_true rfl)⟩ wr_9_99 wr_p_81 hmq655699 heq655699 rfl (show 0 + 1 ≤ ((16 * (p655704.toInt - p655705.toInt)).toNat + 1) by first | omega | decide) (show 0 + 7 ≤ ((160 * (p655704.toInt - p655705.toInt)).toNat + 7) by first | omega | decide) (Nat.le_of_ble_eq_true rfl) (fun r655761 w655762 dc655758 ds655759 hp655760 => ?_) (fun _ _ _ _ _ z => z.elim)
    obtain ⟨P655764, F655765, q655763, rfl, rfl, hsb655766, hfr655767, he655768, he655769, he655770, hm655771, hq655772, hdc, hds⟩ := hp655760
    have hm655773 : q655699 ∈ P655764 := hsb655766 q655699 hmq655699
    have hm655774 : q655700 ∈ P655764 := hsb655766 q655700 hmq655700
    have hq655775 : q655763 ∉ P655697 := fun z => hq655772 ((rSub_rf (P := P655697)) q655763 z)
    have hsb655776 : rSub P655697 P655764 := rSub_tr (rSub_rf (P := P655697)) hsb655766
    have hfr655777 : rFr [] P655697 F655698 F655765 := rFr_call (rSub_rf (P := P655697)) (rFr_rf (W := []) (P := P655697) (F := F655698)) hfr655767 (fun b hb hn => ⟨nm_n, nm_n⟩)
    have tp655778 : tP I P655764 F655765 p655706 qo655710 qo655715 qo655714 := tP_new x655721 hsb655766 (fun b hb => hfr655767 b hb (fun z => by cases z)) (Or.inl rfl) (Or.inl rfl)
    change G _ _ _ _ _ _ _ (.ref q655763 :: _) _ _ _
    refine G_widen (cs' := 1) (sl' := 7) (by omega) (by omega) ?_
    exact Gp_athrow hm655771 he655770 rfl dr_cX14_want_12 (GT_outA rfl (show 1 ≤ ((16 * (p655704.toInt - p655705.toInt)).toNat + 1) by omega) (show 7 ≤ ((160 * (p655704.toInt - p655705.toInt)).toNat + 7) by omega) ⟨P655764, F655765, rfl, rfl, hsb655776, hfr655777, hm655771, hq655775, ⟨_, _, _, _, _, _, _, he655770, by omega⟩, (by omega), (by omega)⟩)
abbrev ky_655812_Reader_want : gKey := (cX14_want_, 3, "SpillForgeModel$Reader", (some FieldType.int), [], "want", fun _ _ => True)
def pp_655812_Reader_want (D : va_G) (I : FieldType → ClassId) (P655788 : List Nat) (F655789 : Nat → va_E) (q655790 : Nat) (q655791 : Nat) (p655792 : Int32) (p655793 : Int32) (p655794 : Int32) (p655795 : Int32) (p655796 : Int32) (p655797 : Int32) (p655798 : Int32) (qo655799 : Nat) (p655800 : Int32) (p655801 : Int32) (p655802 : Int32) (qo655803 : Nat) (qo655804 : Nat) (p655805 : Int32) (f655806 : Nat → Int32) : Option Value → va_W → Nat → Nat → Prop := fun r w dc ds => ∃ (P655867 : List Nat) (F655868 : Nat → va_E) (o655862 : Int32) (o655863 : Int32) (o655864 : Int32) (o655865 : Int32) (q655866 : Nat), r = some (.int p655797) ∧ w = va_pl P655867 F655868 ∧ rSub P655788 P655867 ∧ rFr [q655790] P655788 F655789 F655868 ∧ F655868 q655790 = .inr (19, [.ref q655791, .int p655793, .int o655862, .int o655863, .int o655864, .int o655865, .int p655795, .ref q655866, .int p655800, .int p655801, .int p655802, .ref qo655803, .ref qo655804, .int p655805]) ∧ F655868 q655791 = .inl (I .byte, 8192, .inl f655806) ∧ dc ≤ (16 * (o655862.toInt - p655794.toInt)).toNat ∧ ds ≤ (160 * (o655862.toInt - p655794.toInt)).toNat ∧ gB o655862 0 8192 ∧ gB o655863 0 6 ∧ gB o655864 0 8192 ∧ p655794.toInt ≤ o655862.toInt ∧ prP o655863 p655794 o655862 ∧ o655862.toInt ≤ p655793.toInt ∧ tP I P655867 F655868 o655863 q655866 qo655804 qo655803 ∧ vP o655863 o655865 ∧ vP p655792 p655797 ∧ p655795.toInt = p655792.toInt
def xp_655812_Reader_want (D : va_G) (I : FieldType → ClassId) (P655788 : List Nat) (F655789 : Nat → va_E) (q655790 : Nat) (q655791 : Nat) (p655792 : Int32) (p655793 : Int32) (p655794 : Int32) (p655795 : Int32) (p655796 : Int32) (p655797 : Int32) (p655798 : Int32) (qo655799 : Nat) (p655800 : Int32) (p655801 : Int32) (p655802 : Int32) (qo655803 : Nat) (qo655804 : Nat) (p655805 : Int32) (f655806 : Nat → Int32) : String → Nat → va_W → Nat → Nat → Prop := fun E q w dc ds => ∃ (P655870 : List Nat) (F655869 : Nat → va_E), E = "SpillForgeModel$Wrong" ∧ w = va_pl P655870 F655869 ∧ rSub P655788 P655870 ∧ rFr [] P655788 F655789 F655869 ∧ q ∈ P655870 ∧ q ∉ P655788 ∧ wrF F655869 q ∧ dc ≤ (16 * (p655793.toInt - p655794.toInt)).toNat + 1 ∧ ds ≤ (160 * (p655793.toInt - p655794.toInt)).toNat + 7
set_option maxRecDepth 100000 in
set_option maxHeartbeats 4000000 in
theorem cp_655812_Reader_want (l : Launch) (hl0 : l.stackTraces = false) (D : va_G) (I : FieldType → ClassId) (P655788 : List Nat) (F655789 : Nat → va_E) (q655790 : Nat) (q655791 : Nat) (p655792 : Int32) (p655793 : Int32) (p655794 : Int32) (p655795 : Int32) (p655796 : Int32) (p655797 : Int32) (p655798 : Int32) (qo655799 : Nat) (p655800 : Int32) (p655801 : Int32) (p655802 : Int32) (qo655803 : Nat) (qo655804 : Nat) (p655805 : Int32) (f655806 : Nat → Int32) (hmq655790 : q655790 ∈ P655788) (hmq655791 : q655791 ∈ P655788) (heq655790 : F655789 q655790 = .inr (19, [.ref q655791, .int p655793, .int p655794, .int p655795, .int p655796, .int p655797, .int p655798, .ref qo655799, .int p655800, .int p655801, .int p655802, .ref qo655803, .ref qo655804, .int p655805])) (heq655791 : F655789 q655791 = .inl (I .byte, 8192, .inl f655806)) (bp655792 : gB p655792 0 6) (bp655793 : gB p655793 0 8192) (bp655794 : gB p655794 0 8192) (bp655795 : gB p655795 0 6) (bp655796 : gB p655796 0 8192) (bp655798 : gB p655798 0 6) (bp655800 : gB p655800 (-1) 8192) (bp655801 : gB p655801 0 4) (bp655802 : gB p655802 0 1000000) (bp655805 : gB p655805 0 1000000) (bf655806 : gF f655806 (-128) 127) (x655807 : p655794.toInt ≤ p655793.toInt) (x655808 : qo655804 ∈ P655788) (x655809 : qo655803 ∈ P655788) (x655810 : tP I P655788 F655789 p655795 qo655799 qo655804 qo655803) (x655811 : vP p655795 p655797) : CtA (gV D I) l yX14_want_ cX14_want_ 3 (some FieldType.int) 8 177 ((16 * (p655793.toInt - p655794.toInt)).toNat + 1) ((160 * (p655793.toInt - p655794.toInt)).toNat + 7) [.ref q655790, .int p655792] (va_pl P655788 F655789) (pp_655812_Reader_want D I P655788 F655789 q655790 q655791 p655792 p655793 p655794 p655795 p655796 p655797 p655798 qo655799 p655800 p655801 p655802 qo655803 qo655804 p655805 f655806) (xp_655812_Reader_want D I P655788 F655789 q655790 q655791 p655792 p655793 p655794 p655795 p655796 p655797 p655798 qo655799 p655800 p655801 p655802 qo655803 qo655804 p655805 f655806) := by
  refine CtA_of hl0 (by decide) (Nat.le_of_ble_eq_true rfl) ?_
  have bp655797 := gB_any p655797
  refine G_aload_n 0 dr_cX14_want__0 rfl ?_
  refine Gp_get 3 hmq655790 heq655790 dr_cX14_want__1 (gk_X14 D I) (Nat.le_of_ble_eq_true rfl) wr_9_39 rfl ?_
  refine G_iload_n 1 dr_cX14_want__4 rfl ?_
  refine G_icmp_eq 13 dr_cX14_want__5 (by decide +kernel) (fun hc655813 => ?_) (fun hc655813 => ?_)
  · have r655814 : p655795.toInt = p655792.toInt := gC_eq hc655813
    refine G_aload_n 0 dr_cX14_want__13 rfl ?_
    refine Gp_get 5 hmq655790 heq655790 dr_cX14_want__14 (gk_X14 D I) (Nat.le_of_ble_eq_true rfl) wr_9_41 rfl ?_
    refine G_istore_n (L' := [(2, .int p655797), (0, .ref q655790), (1, .int p655792)]) dr_cX14_want__17 (Nat.le_of_ble_eq_true rfl) rfl ?_
    refine G_aload_n 1 dr_cX14_want__18 rfl ?_
    refine Gw_callV (As := []) (gV_ok D I) (cp_653764_Reader_next l hl0 D I P655788 F655789 q655790 q655791 p655793 p655794 p655795 p655796 p655797 p655798 qo655799 p655800 p655801 p655802 qo655803 qo655804 p655805 f655806 hmq655790 hmq655791 heq655790 heq655791 bp655793 bp655794 bp655795 bp655796 bp655798 bp655800 bp655801 bp655802 bp655805 bf655806 (by omega) x655808 x655809) dr_cX14_want__19 ⟨wr_7_215, wr_1_32, wr_7_218, by decide, rfl, (Nat.le_of_ble_eq_true rfl), (Nat.le_of_ble_eq_true rfl)⟩ wr_7_217 wr_p_75 hmq655790 heq655790 rfl (show 0 + ((16 * (p655793.toInt - p655794.toInt)).toNat) ≤ ((16 * (p655793.toInt - p655794.toInt)).toNat + 1) by first | omega | decide) (show 0 + ((160 * (p655793.toInt - p655794.toInt)).toNat) ≤ ((160 * (p655793.toInt - p655794.toInt)).toNat + 7) by first | omega | decide) (Nat.le_of_ble_eq_true rfl) (fun r655818 w655819 dc655815 ds655816 hp655817 => ?_) (fun _ _ _ _ _ z => z.elim)
    obtain ⟨P655830, F655831, o655820, o655821, o655822, o655823, q655824, rfl, rfl, hsb655832, hfr655833, he655834, he655835, hdc, hds, bo655820, bo655821, bo655822, x655825, x655826, x655827, x655828, x655829⟩ := hp655817
    have hm655836 : q655790 ∈ P655830 := hsb655832 q655790 hmq655790
    have hm655837 : q655791 ∈ P655830 := hsb655832 q655791 hmq655791
    have hsb655838 : rSub P655788 P655830 := rSub_tr (rSub_rf (P := P655788)) hsb655832
    have hfr655839 : rFr [q655790] P655788 F655789 F655831 := rFr_call (rSub_rf (P := P655788)) (rFr_rf (W := []) (P := P655788) (F := F655789)) hfr655833 (fun b hb hn => ⟨nm_n, (nm_c (fun e => hn (e ▸ List.mem_cons_self)) nm_n)⟩)
    have bo655823 := gB_any o655823
    change G _ _ _ _ _ _ _ _ _ _ _
    refine G_widen (cs' := (16 * (o655820.toInt - p655794.toInt)).toNat) (sl' := (160 * (o655820.toInt - p655794.toInt)).toNat) (by omega) (by omega) ?_
    refine G_iload_n 0 dr_cX14_want__22 rfl ?_
    exact G_iretA dr_cX14_want__23 rfl (show (16 * (o655820.toInt - p655794.toInt)).toNat ≤ ((16 * (p655793.toInt - p655794.toInt)).toNat + 1) by omega) (show (160 * (o655820.toInt - p655794.toInt)).toNat ≤ ((160 * (p655793.toInt - p655794.toInt)).toNat + 7) by omega) ⟨P655830, F655831, o655820, o655821, o655822, o655823, q655824, rfl, rfl, hsb655838, hfr655839, he655834, he655835, (by omega), (by omega), bo655820, bo655821, bo655822, (by omega), x655826, (by omega), x655828, x655829, (vP_eq x655811 (by omega)), (by omega)⟩
  · have r655840 : p655795.toInt ≠ p655792.toInt := gC_ne hc655813
    refine G_aload_n 0 dr_cX14_want__8 rfl ?_
    refine Gw_callV (As := []) (gV_ok D I) (cp_655395_Reader_no l hl0 D I P655788 F655789 q655790 q655791 p655793 p655794 p655795 p655796 p655797 p655798 qo655799 p655800 p655801 p655802 qo655803 qo655804 p655805 f655806 hmq655790 hmq655791 heq655790 heq655791 bp655793 bp655794 bp655795 bp655796 bp655798 bp655800 bp655801 bp655802 bp655805 bf655806) dr_cX14_want__9 ⟨wr_9_97, wr_1_32, wr_9_100, by decide, rfl, (Nat.le_of_ble_eq_true rfl), (Nat.le_of_ble_eq_true rfl)⟩ wr_9_99 wr_p_81 hmq655790 heq655790 rfl (show 0 + 1 ≤ ((16 * (p655793.toInt - p655794.toInt)).toNat + 1) by first | omega | decide) (show 0 + 7 ≤ ((160 * (p655793.toInt - p655794.toInt)).toNat + 7) by first | omega | decide) (Nat.le_of_ble_eq_true rfl) (fun r655844 w655845 dc655841 ds655842 hp655843 => ?_) (fun _ _ _ _ _ z => z.elim)
    obtain ⟨P655847, F655848, q655846, rfl, rfl, hsb655849, hfr655850, he655851, he655852, he655853, hm655854, hq655855, hdc, hds⟩ := hp655843
    have hm655856 : q655790 ∈ P655847 := hsb655849 q655790 hmq655790
    have hm655857 : q655791 ∈ P655847 := hsb655849 q655791 hmq655791
    have hq655858 : q655846 ∉ P655788 := fun z => hq655855 ((rSub_rf (P := P655788)) q655846 z)
    have hsb655859 : rSub P655788 P655847 := rSub_tr (rSub_rf (P := P655788)) hsb655849
    have hfr655860 : rFr [] P655788 F655789 F655848 := rFr_call (rSub_rf (P := P655788)) (rFr_rf (W := []) (P := P655788) (F := F655789)) hfr655850 (fun b hb hn => ⟨nm_n, nm_n⟩)
    have tp655861 : tP I P655847 F655848 p655795 qo655799 qo655804 qo655803 := tP_new x655810 hsb655849 (fun b hb => hfr655850 b hb (fun z => by cases z)) (Or.inl rfl) (Or.inl rfl)
    change G _ _ _ _ _ _ _ (.ref q655846 :: _) _ _ _
    refine G_widen (cs' := 1) (sl' := 7) (by omega) (by omega) ?_
    exact Gp_athrow hm655854 he655853 rfl dr_cX14_want__12 (GT_outA rfl (show 1 ≤ ((16 * (p655793.toInt - p655794.toInt)).toNat + 1) by omega) (show 7 ≤ ((160 * (p655793.toInt - p655794.toInt)).toNat + 7) by omega) ⟨P655847, F655848, rfl, rfl, hsb655859, hfr655860, hm655854, hq655858, ⟨_, _, _, _, _, _, _, he655853, by omega⟩, (by omega), (by omega)⟩)
