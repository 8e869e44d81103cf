theorem dr_cE_Throwable_init4_0 : decode cE_Throwable_init4 0 = .ok (.aload_n 0, 1) := by decide +kernel
theorem dr_cE_Throwable_init4_1 : decode cE_Throwable_init4 1 = .ok (.invokespecial 1, 3) := by decide +kernel
theorem wr_4_220 : (Jvm.Cond.methodLink "java/lang/Throwable" (1 : Nat) ({ cls := "java/lang/Object", name := "<init>", desc := "()V" } : Jvm.MethodName)) ∈ gw := gw_4 220 rfl rfl
theorem dr_cE_Throwable_init4_4 : decode cE_Throwable_init4 4 = .ok (.aload_n 0, 1) := by decide +kernel
theorem dr_cE_Throwable_init4_5 : decode cE_Throwable_init4 5 = .ok (.aload_n 0, 1) := by decide +kernel
theorem dr_cE_Throwable_init4_6 : decode cE_Throwable_init4 6 = .ok (.putfield 7, 3) := by decide +kernel
theorem wr_5_15 : (Jvm.Cond.fieldLink "java/lang/Throwable" (7 : Nat) "java/lang/Throwable" "cause" "Ljava/lang/Throwable;") ∈ gw := gw_5 15 rfl rfl
theorem dr_cE_Throwable_init4_9 : decode cE_Throwable_init4 9 = .ok (.aload_n 0, 1) := by decide +kernel
theorem dr_cE_Throwable_init4_10 : decode cE_Throwable_init4 10 = .ok (.getstatic 13, 3) := by decide +kernel
theorem wr_4_221 : (Jvm.Cond.fieldLink "java/lang/Throwable" (13 : Nat) "java/lang/Throwable" "UNASSIGNED_STACK" "[Ljava/lang/StackTraceElement;") ∈ gw := gw_4 221 rfl rfl
theorem dr_cE_Throwable_init4_13 : decode cE_Throwable_init4 13 = .ok (.putfield 17, 3) := by decide +kernel
theorem wr_5_16 : (Jvm.Cond.fieldLink "java/lang/Throwable" (17 : Nat) "java/lang/Throwable" "stackTrace" "[Ljava/lang/StackTraceElement;") ∈ gw := gw_5 16 rfl rfl
theorem dr_cE_Throwable_init4_16 : decode cE_Throwable_init4 16 = .ok (.aload_n 0, 1) := by decide +kernel
theorem dr_cE_Throwable_init4_17 : decode cE_Throwable_init4 17 = .ok (.getstatic 20, 3) := by decide +kernel
theorem wr_4_223 : (Jvm.Cond.fieldLink "java/lang/Throwable" (20 : Nat) "java/lang/Throwable" "SUPPRESSED_SENTINEL" "Ljava/util/List;") ∈ gw := gw_4 223 rfl rfl
theorem dr_cE_Throwable_init4_20 : decode cE_Throwable_init4 20 = .ok (.putfield 24, 3) := by decide +kernel
theorem wr_5_17 : (Jvm.Cond.fieldLink "java/lang/Throwable" (24 : Nat) "java/lang/Throwable" "suppressedExceptions" "Ljava/util/List;") ∈ gw := gw_5 17 rfl rfl
theorem dr_cE_Throwable_init4_23 : decode cE_Throwable_init4 23 = .ok (.iload 4, 2) := by decide +kernel
theorem dr_cE_Throwable_init4_25 : decode cE_Throwable_init4 25 = .ok (.ifCond .eq 11, 3) := by decide +kernel
theorem dr_cE_Throwable_init4_36 : decode cE_Throwable_init4 36 = .ok (.aload_n 0, 1) := by decide +kernel
theorem dr_cE_Throwable_init4_37 : decode cE_Throwable_init4 37 = .ok (.aconst_null, 1) := by decide +kernel
theorem dr_cE_Throwable_init4_38 : decode cE_Throwable_init4 38 = .ok (.putfield 17, 3) := by decide +kernel
theorem dr_cE_Throwable_init4_41 : decode cE_Throwable_init4 41 = .ok (.aload_n 0, 1) := by decide +kernel
theorem dr_cE_Throwable_init4_42 : decode cE_Throwable_init4 42 = .ok (.aload_n 1, 1) := by decide +kernel
theorem dr_cE_Throwable_init4_43 : decode cE_Throwable_init4 43 = .ok (.putfield 31, 3) := by decide +kernel
theorem wr_5_14 : (Jvm.Cond.fieldLink "java/lang/Throwable" (31 : Nat) "java/lang/Throwable" "detailMessage" "Ljava/lang/String;") ∈ gw := gw_5 14 rfl rfl
theorem dr_cE_Throwable_init4_46 : decode cE_Throwable_init4 46 = .ok (.aload_n 0, 1) := by decide +kernel
theorem dr_cE_Throwable_init4_47 : decode cE_Throwable_init4 47 = .ok (.aload_n 2, 1) := by decide +kernel
theorem dr_cE_Throwable_init4_48 : decode cE_Throwable_init4 48 = .ok (.putfield 7, 3) := by decide +kernel
theorem dr_cE_Throwable_init4_51 : decode cE_Throwable_init4 51 = .ok (.iload_n 3, 1) := by decide +kernel
theorem dr_cE_Throwable_init4_52 : decode cE_Throwable_init4 52 = .ok (.ifCond .ne 8, 3) := by decide +kernel
theorem dr_cE_Throwable_init4_55 : decode cE_Throwable_init4 55 = .ok (.aload_n 0, 1) := by decide +kernel
theorem dr_cE_Throwable_init4_56 : decode cE_Throwable_init4 56 = .ok (.aconst_null, 1) := by decide +kernel
theorem dr_cE_Throwable_init4_57 : decode cE_Throwable_init4 57 = .ok (.putfield 24, 3) := by decide +kernel
theorem dr_cE_Throwable_init4_60 : decode cE_Throwable_init4 60 = .ok (.return_, 1) := by decide +kernel
theorem dr_cE_Exception_init4_0 : decode cE_Exception_init4 0 = .ok (.aload_n 0, 1) := by decide +kernel
theorem dr_cE_Exception_init4_1 : decode cE_Exception_init4 1 = .ok (.aload_n 1, 1) := by decide +kernel
theorem dr_cE_Exception_init4_2 : decode cE_Exception_init4 2 = .ok (.aload_n 2, 1) := by decide +kernel
theorem dr_cE_Exception_init4_3 : decode cE_Exception_init4 3 = .ok (.iload_n 3, 1) := by decide +kernel
theorem dr_cE_Exception_init4_4 : decode cE_Exception_init4 4 = .ok (.iload 4, 2) := by decide +kernel
theorem dr_cE_Exception_init4_6 : decode cE_Exception_init4 6 = .ok (.invokespecial 16, 3) := by decide +kernel
theorem wr_9_119 : (Jvm.Cond.methodLink "java/lang/Exception" (16 : Nat) ({ cls := "java/lang/Throwable", name := "<init>", desc := "(Ljava/lang/String;Ljava/lang/Throwable;ZZ)V" } : Jvm.MethodName)) ∈ gw := gw_9 119 rfl rfl
theorem wr_1_23 : (Jvm.Cond.initialized "java/lang/Throwable") ∈ gw := gw_1 23 rfl rfl
theorem wr_9_121 : (Jvm.Cond.code ({ cls := "java/lang/Throwable", name := "<init>", desc := "(Ljava/lang/String;Ljava/lang/Throwable;ZZ)V" } : Jvm.MethodName) prog_40_method_5_code (5 : Nat) (Option.none : Option Jvm.ClassFile.FieldType)) ∈ gw := gw_9 121 rfl rfl
theorem wr_9_120 : (Jvm.Cond.instanceMethod ({ cls := "java/lang/Throwable", name := "<init>", desc := "(Ljava/lang/String;Ljava/lang/Throwable;ZZ)V" } : Jvm.MethodName)) ∈ gw := gw_9 120 rfl rfl
theorem dr_cE_Exception_init4_9 : decode cE_Exception_init4 9 = .ok (.return_, 1) := by decide +kernel
theorem dr_cE_RuntimeException_init4_0 : decode cE_RuntimeException_init4 0 = .ok (.aload_n 0, 1) := by decide +kernel
theorem dr_cE_RuntimeException_init4_1 : decode cE_RuntimeException_init4 1 = .ok (.aload_n 1, 1) := by decide +kernel
theorem dr_cE_RuntimeException_init4_2 : decode cE_RuntimeException_init4 2 = .ok (.aload_n 2, 1) := by decide +kernel
theorem dr_cE_RuntimeException_init4_3 : decode cE_RuntimeException_init4 3 = .ok (.iload_n 3, 1) := by decide +kernel
theorem dr_cE_RuntimeException_init4_4 : decode cE_RuntimeException_init4 4 = .ok (.iload 4, 2) := by decide +kernel
theorem dr_cE_RuntimeException_init4_6 : decode cE_RuntimeException_init4 6 = .ok (.invokespecial 16, 3) := by decide +kernel
theorem wr_9_116 : (Jvm.Cond.methodLink "java/lang/RuntimeException" (16 : Nat) ({ cls := "java/lang/Exception", name := "<init>", desc := "(Ljava/lang/String;Ljava/lang/Throwable;ZZ)V" } : Jvm.MethodName)) ∈ gw := gw_9 116 rfl rfl
theorem wr_1_24 : (Jvm.Cond.initialized "java/lang/Exception") ∈ gw := gw_1 24 rfl rfl
theorem wr_9_118 : (Jvm.Cond.code ({ cls := "java/lang/Exception", name := "<init>", desc := "(Ljava/lang/String;Ljava/lang/Throwable;ZZ)V" } : Jvm.MethodName) prog_25_method_5_code (5 : Nat) (Option.none : Option Jvm.ClassFile.FieldType)) ∈ gw := gw_9 118 rfl rfl
theorem wr_9_117 : (Jvm.Cond.instanceMethod ({ cls := "java/lang/Exception", name := "<init>", desc := "(Ljava/lang/String;Ljava/lang/Throwable;ZZ)V" } : Jvm.MethodName)) ∈ gw := gw_9 117 rfl rfl
theorem dr_cE_RuntimeException_init4_9 : decode cE_RuntimeException_init4 9 = .ok (.return_, 1) := by decide +kernel
theorem dr_cX16_init_0 : decode cX16_init 0 = .ok (.aload_n 0, 1) := by decide +kernel
theorem dr_cX16_init_1 : decode cX16_init 1 = .ok (.aconst_null, 1) := by decide +kernel
theorem dr_cX16_init_2 : decode cX16_init 2 = .ok (.aconst_null, 1) := by decide +kernel
theorem dr_cX16_init_3 : decode cX16_init 3 = .ok (.iconst 0, 1) := by decide +kernel
theorem dr_cX16_init_4 : decode cX16_init 4 = .ok (.iconst 0, 1) := by decide +kernel
theorem dr_cX16_init_5 : decode cX16_init 5 = .ok (.invokespecial 1, 3) := by decide +kernel
theorem wr_9_113 : (Jvm.Cond.methodLink "SpillForgeModel$Wrong" (1 : Nat) ({ cls := "java/lang/RuntimeException", name := "<init>", desc := "(Ljava/lang/String;Ljava/lang/Throwable;ZZ)V" } : Jvm.MethodName)) ∈ gw := gw_9 113 rfl rfl
theorem wr_1_25 : (Jvm.Cond.initialized "java/lang/RuntimeException") ∈ gw := gw_1 25 rfl rfl
theorem wr_9_115 : (Jvm.Cond.code ({ cls := "java/lang/RuntimeException", name := "<init>", desc := "(Ljava/lang/String;Ljava/lang/Throwable;ZZ)V" } : Jvm.MethodName) prog_33_method_5_code (5 : Nat) (Option.none : Option Jvm.ClassFile.FieldType)) ∈ gw := gw_9 115 rfl rfl
theorem wr_9_114 : (Jvm.Cond.instanceMethod ({ cls := "java/lang/RuntimeException", name := "<init>", desc := "(Ljava/lang/String;Ljava/lang/Throwable;ZZ)V" } : Jvm.MethodName)) ∈ gw := gw_9 114 rfl rfl
theorem dr_cX16_init_8 : decode cX16_init 8 = .ok (.aload_n 0, 1) := by decide +kernel
theorem dr_cX16_init_9 : decode cX16_init 9 = .ok (.iload_n 1, 1) := by decide +kernel
theorem dr_cX16_init_10 : decode cX16_init 10 = .ok (.putfield 7, 3) := by decide +kernel
theorem wr_9_122 : (Jvm.Cond.fieldLink "SpillForgeModel$Wrong" (7 : Nat) "SpillForgeModel$Wrong" "place" "I") ∈ gw := gw_9 122 rfl rfl
theorem dr_cX16_init_13 : decode cX16_init 13 = .ok (.return_, 1) := by decide +kernel
theorem dr_cX14_no_0 : decode cX14_no 0 = .ok (.new 124, 3) := by decide +kernel
theorem wr_9_101 : (Jvm.Cond.classLink "SpillForgeModel$Reader" (124 : Nat) "SpillForgeModel$Wrong") ∈ gw := gw_9 101 rfl rfl
theorem wr_9_102 : (Jvm.Cond.instantiable "SpillForgeModel$Wrong" (7 : Nat)) ∈ gw := gw_9 102 rfl rfl
theorem wr_1_37 : (Jvm.Cond.initialized "SpillForgeModel$Wrong") ∈ gw := gw_1 37 rfl rfl
theorem dr_cX14_no_3 : decode cX14_no 3 = .ok (.dup, 1) := by decide +kernel
theorem dr_cX14_no_4 : decode cX14_no 4 = .ok (.aload_n 0, 1) := by decide +kernel
theorem dr_cX14_no_5 : decode cX14_no 5 = .ok (.getfield 47, 3) := by decide +kernel
theorem dr_cX14_no_8 : decode cX14_no 8 = .ok (.invokespecial 126, 3) := by decide +kernel
theorem wr_9_110 : (Jvm.Cond.methodLink "SpillForgeModel$Reader" (126 : Nat) ({ cls := "SpillForgeModel$Wrong", name := "<init>", desc := "(I)V" } : Jvm.MethodName)) ∈ gw := gw_9 110 rfl rfl
theorem wr_9_112 : (Jvm.Cond.code ({ cls := "SpillForgeModel$Wrong", name := "<init>", desc := "(I)V" } : Jvm.MethodName) prog_19_method_1_code (2 : Nat) (Option.none : Option Jvm.ClassFile.FieldType)) ∈ gw := gw_9 112 rfl rfl
theorem wr_9_111 : (Jvm.Cond.instanceMethod ({ cls := "SpillForgeModel$Wrong", name := "<init>", desc := "(I)V" } : Jvm.MethodName)) ∈ gw := gw_9 111 rfl rfl
theorem dr_cX14_no_11 : decode cX14_no 11 = .ok (.areturn, 1) := by decide +kernel
theorem dr_cX14_is_0 : decode cX14_is 0 = .ok (.aload_n 0, 1) := by decide +kernel
theorem dr_cX14_is_1 : decode cX14_is 1 = .ok (.getfield 38, 3) := by decide +kernel
theorem dr_cX14_is_4 : decode cX14_is 4 = .ok (.iconst 5, 1) := by decide +kernel
theorem dr_cX14_is_5 : decode cX14_is 5 = .ok (.if_icmp .eq 11, 3) := by decide +kernel
theorem dr_cX14_is_16 : decode cX14_is 16 = .ok (.aload_n 0, 1) := by decide +kernel
theorem dr_cX14_is_17 : decode cX14_is 17 = .ok (.getfield 11, 3) := by decide +kernel
theorem dr_cX14_is_20 : decode cX14_is 20 = .ok (.aload_n 1, 1) := by decide +kernel
theorem dr_cX14_is_21 : decode cX14_is 21 = .ok (.invokevirtual 128, 3) := by decide +kernel
theorem wr_9_145 : (Jvm.Cond.methodLink "SpillForgeModel$Reader" (128 : Nat) ({ cls := "java/lang/String", name := "equals", desc := "(Ljava/lang/Object;)Z" } : Jvm.MethodName)) ∈ gw := gw_9 145 rfl rfl
theorem wr_9_148 : (Jvm.Cond.code ({ cls := "java/lang/String", name := "equals", desc := "(Ljava/lang/Object;)Z" } : Jvm.MethodName) prog_34_method_66_code (3 : Nat) (Option.some Jvm.ClassFile.FieldType.boolean)) ∈ gw := gw_9 148 rfl rfl
theorem wr_9_146 : (Jvm.Cond.instanceMethod ({ cls := "java/lang/String", name := "equals", desc := "(Ljava/lang/Object;)Z" } : Jvm.MethodName)) ∈ gw := gw_9 146 rfl rfl
theorem wr_9_147 : (Jvm.Cond.selects "java/lang/String" ({ cls := "java/lang/String", name := "equals", desc := "(Ljava/lang/Object;)Z" } : Jvm.MethodName) ({ cls := "java/lang/String", name := "equals", desc := "(Ljava/lang/Object;)Z" } : Jvm.MethodName)) ∈ gw := gw_9 147 rfl rfl
theorem dr_cX14_is_24 : decode cX14_is 24 = .ok (.ifCond .eq 7, 3) := by decide +kernel
theorem dr_cX14_is_31 : decode cX14_is 31 = .ok (.iconst 0, 1) := by decide +kernel
theorem dr_cX14_is_32 : decode cX14_is 32 = .ok (.ireturn, 1) := by decide +kernel
theorem dr_cX14_is_27 : decode cX14_is 27 = .ok (.iconst 1, 1) := by decide +kernel
theorem dr_cX14_is_28 : decode cX14_is 28 = .ok (.goto 4, 3) := by decide +kernel
theorem dr_cX14_is_8 : decode cX14_is 8 = .ok (.aload_n 0, 1) := by decide +kernel
theorem dr_cX14_is_9 : decode cX14_is 9 = .ok (.getfield 38, 3) := by decide +kernel
theorem dr_cX14_is_12 : decode cX14_is 12 = .ok (.iconst 1, 1) := by decide +kernel
theorem dr_cX14_is_13 : decode cX14_is 13 = .ok (.if_icmp .ne 18, 3) := by decide +kernel
theorem dr_cX14_want_0 : decode cX14_want 0 = .ok (.aload_n 0, 1) := by decide +kernel
theorem dr_cX14_want_1 : decode cX14_want 1 = .ok (.aload_n 1, 1) := by decide +kernel
theorem dr_cX14_want_2 : decode cX14_want 2 = .ok (.invokevirtual 132, 3) := by decide +kernel
theorem wr_9_141 : (Jvm.Cond.methodLink "SpillForgeModel$Reader" (132 : Nat) ({ cls := "SpillForgeModel$Reader", name := "is", desc := "(Ljava/lang/String;)Z" } : Jvm.MethodName)) ∈ gw := gw_9 141 rfl rfl
theorem wr_9_144 : (Jvm.Cond.code ({ cls := "SpillForgeModel$Reader", name := "is", desc := "(Ljava/lang/String;)Z" } : Jvm.MethodName) prog_17_method_9_code (2 : Nat) (Option.some Jvm.ClassFile.FieldType.boolean)) ∈ gw := gw_9 144 rfl rfl
theorem wr_9_143 : (Jvm.Cond.instanceMethod ({ cls := "SpillForgeModel$Reader", name := "is", desc := "(Ljava/lang/String;)Z" } : Jvm.MethodName)) ∈ gw := gw_9 143 rfl rfl
theorem wr_p_84 : Cond.selects "SpillForgeModel$Reader" ⟨"SpillForgeModel$Reader", "is", "(Ljava/lang/String;)Z"⟩ ⟨"SpillForgeModel$Reader", "is", "(Ljava/lang/String;)Z"⟩ ∈ gw := gw_p _ 84 rfl rfl rfl
theorem dr_cX14_want_5 : decode cX14_want 5 = .ok (.ifCond .ne 8, 3) := by decide +kernel
theorem dr_cX14_want_13 : decode cX14_want 13 = .ok (.aload_n 0, 1) := by decide +kernel
theorem dr_cX14_want_14 : decode cX14_want 14 = .ok (.invokevirtual 35, 3) := by decide +kernel
theorem wr_7_215 : (Jvm.Cond.methodLink "SpillForgeModel$Reader" (35 : Nat) ({ cls := "SpillForgeModel$Reader", name := "next", desc := "()V" } : Jvm.MethodName)) ∈ gw := gw_7 215 rfl rfl
theorem wr_7_218 : (Jvm.Cond.code ({ cls := "SpillForgeModel$Reader", name := "next", desc := "()V" } : Jvm.MethodName) prog_17_method_4_code (3 : Nat) (Option.none : Option Jvm.ClassFile.FieldType)) ∈ gw := gw_7 218 rfl rfl
theorem wr_7_217 : (Jvm.Cond.instanceMethod ({ cls := "SpillForgeModel$Reader", name := "next", desc := "()V" } : Jvm.MethodName)) ∈ gw := gw_7 217 rfl rfl
theorem wr_p_75 : Cond.selects "SpillForgeModel$Reader" ⟨"SpillForgeModel$Reader", "next", "()V"⟩ ⟨"SpillForgeModel$Reader", "next", "()V"⟩ ∈ gw := gw_p _ 75 rfl rfl rfl
theorem dr_cX14_want_17 : decode cX14_want 17 = .ok (.return_, 1) := by decide +kernel
theorem dr_cX14_want_8 : decode cX14_want 8 = .ok (.aload_n 0, 1) := by decide +kernel
theorem dr_cX14_want_9 : decode cX14_want 9 = .ok (.invokevirtual 136, 3) := by decide +kernel
theorem wr_9_97 : (Jvm.Cond.methodLink "SpillForgeModel$Reader" (136 : Nat) ({ cls := "SpillForgeModel$Reader", name := "no", desc := "()LSpillForgeModel$Wrong;" } : Jvm.MethodName)) ∈ gw := gw_9 97 rfl rfl
theorem wr_9_100 : (Jvm.Cond.code ({ cls := "SpillForgeModel$Reader", name := "no", desc := "()LSpillForgeModel$Wrong;" } : Jvm.MethodName) prog_17_method_8_code (1 : Nat) (Option.some (Jvm.ClassFile.FieldType.object "SpillForgeModel$Wrong"))) ∈ gw := gw_9 100 rfl rfl
theorem wr_9_99 : (Jvm.Cond.instanceMethod ({ cls := "SpillForgeModel$Reader", name := "no", desc := "()LSpillForgeModel$Wrong;" } : Jvm.MethodName)) ∈ gw := gw_9 99 rfl rfl
theorem wr_p_81 : Cond.selects "SpillForgeModel$Reader" ⟨"SpillForgeModel$Reader", "no", "()LSpillForgeModel$Wrong;"⟩ ⟨"SpillForgeModel$Reader", "no", "()LSpillForgeModel$Wrong;"⟩ ∈ gw := gw_p _ 81 rfl rfl rfl
theorem dr_cX14_want_12 : decode cX14_want 12 = .ok (.athrow, 1) := by decide +kernel
theorem dr_cX14_want__0 : decode cX14_want_ 0 = .ok (.aload_n 0, 1) := by decide +kernel
theorem dr_cX14_want__1 : decode cX14_want_ 1 = .ok (.getfield 38, 3) := by decide +kernel
theorem dr_cX14_want__4 : decode cX14_want_ 4 = .ok (.iload_n 1, 1) := by decide +kernel
theorem dr_cX14_want__5 : decode cX14_want_ 5 = .ok (.if_icmp .eq 8, 3) := by decide +kernel
theorem dr_cX14_want__13 : decode cX14_want_ 13 = .ok (.aload_n 0, 1) := by decide +kernel
theorem dr_cX14_want__14 : decode cX14_want_ 14 = .ok (.getfield 80, 3) := by decide +kernel
theorem dr_cX14_want__17 : decode cX14_want_ 17 = .ok (.istore_n 2, 1) := by decide +kernel
theorem dr_cX14_want__18 : decode cX14_want_ 18 = .ok (.aload_n 0, 1) := by decide +kernel
theorem dr_cX14_want__19 : decode cX14_want_ 19 = .ok (.invokevirtual 35, 3) := by decide +kernel
theorem dr_cX14_want__22 : decode cX14_want_ 22 = .ok (.iload_n 2, 1) := by decide +kernel
theorem dr_cX14_want__23 : decode cX14_want_ 23 = .ok (.ireturn, 1) := by decide +kernel
theorem dr_cX14_want__8 : decode cX14_want_ 8 = .ok (.aload_n 0, 1) := by decide +kernel
theorem dr_cX14_want__9 : decode cX14_want_ 9 = .ok (.invokevirtual 136, 3) := by decide +kernel
theorem dr_cX14_want__12 : decode cX14_want_ 12 = .ok (.athrow, 1) := by decide +kernel
abbrev ky_655422_Throwable_init : gKey := (cE_Throwable_init4, 5, "java/lang/Throwable", none, [], "<init>", fun _ _ => True)
def pp_655422_Throwable_init (D : va_G) (I : FieldType → ClassId) (P655417 : List Nat) (F655418 : Nat → va_E) (q655419 : Nat) (p655420 : Int32) (p655421 : Int32) : Option Value → va_W → Nat → Nat → Prop := fun r w dc ds => ∃ (F655548 : Nat → va_E), r = none ∧ w = va_pl P655417 F655548 ∧ rFr [q655419] P655417 F655418 F655548 ∧ F655548 q655419 = .inr (21, [.null, .null, .null, .null, .null, .int p655420, .int p655421]) ∧ dc ≤ 0 ∧ ds ≤ 0
set_option maxRecDepth 100000 in
set_option maxHeartbeats 4000000 in
theorem cp_655422_Throwable_init (l : Launch) (hl0 : l.stackTraces = false) (D : va_G) (I : FieldType → ClassId) (P655417 : List Nat) (F655418 : Nat → va_E) (q655419 : Nat) (p655420 : Int32) (p655421 : Int32) (hmq655419 : q655419 ∈ P655417) (heq655419 : F655418 q655419 = .inr (21, [.null, .null, .null, .null, .null, .int p655420, .int p655421])) (bp655421 : gB p655421 0 8192) : CtA (gV D I) l yE_Throwable_init4 cE_Throwable_init4 5 none 1 12 0 0 [.ref q655419, .null, .null, .int 0, .int 0] (va_pl P655417 F655418) (pp_655422_Throwable_init D I P655417 F655418 q655419 p655420 p655421) gNA := by
  refine CtA_ofF hl0 (by decide +kernel) (Nat.le_of_ble_eq_true rfl) ?_
  have bp655420 := gB_any p655420
  refine G_aload_n 0 dr_cE_Throwable_init4_0 rfl ?_
  refine G_obj dr_cE_Throwable_init4_1 wr_4_220 wr_1_51 wr_1_52 (Nat.le_of_ble_eq_true rfl) (Nat.le_of_ble_eq_true rfl) ?_
  refine G_aload_n 0 dr_cE_Throwable_init4_4 rfl ?_
  refine G_aload_n 0 dr_cE_Throwable_init4_5 rfl ?_
  refine Gp_put 0 hmq655419 heq655419 dr_cE_Throwable_init4_6 (gk_X16 D I) (Nat.le_of_ble_eq_true rfl) wr_5_15 rfl rfl rfl (Nat.le_of_ble_eq_true rfl) (fun F655423 e655424 n655425 => ?_)
  have he655426 : F655423 q655419 = .inr (21, [.ref q655419, .null, .null, .null, .null, .int p655420, .int p655421]) := e655424
  have hfr655427 : rFr [q655419] P655417 F655418 F655423 := rFr_put (rFr_rf (W := []) (P := P655417) (F := F655418)) n655425
  refine G_aload_n 0 dr_cE_Throwable_init4_9 rfl ?_
  refine G_gets dr_cE_Throwable_init4_10 wr_4_221 gz_us (fun x655430 hx655429 => ?_)
  rcases hx655429 with rfl | ⟨t655428, rfl⟩
  · refine Gp_put 1 hmq655419 he655426 dr_cE_Throwable_init4_13 (gk_X16 D I) (Nat.le_of_ble_eq_true rfl) wr_5_16 rfl rfl rfl (Nat.le_of_ble_eq_true rfl) (fun F655431 e655432 n655433 => ?_)
    have he655434 : F655431 q655419 = .inr (21, [.ref q655419, .null, .null, .null, .null, .int p655420, .int p655421]) := e655432
    have hfr655435 : rFr [q655419] P655417 F655418 F655431 := rFr_put' List.mem_cons_self hfr655427 n655433
    refine G_aload_n 0 dr_cE_Throwable_init4_16 rfl ?_
    refine G_gets dr_cE_Throwable_init4_17 wr_4_223 gz_ss (fun x655438 hx655437 => ?_)
    rcases hx655437 with rfl | ⟨t655436, rfl⟩
    · refine Gp_put 2 hmq655419 he655434 dr_cE_Throwable_init4_20 (gk_X16 D I) (Nat.le_of_ble_eq_true rfl) wr_5_17 rfl rfl rfl (Nat.le_of_ble_eq_true rfl) (fun F655439 e655440 n655441 => ?_)
      have he655442 : F655439 q655419 = .inr (21, [.ref q655419, .null, .null, .null, .null, .int p655420, .int p655421]) := e655440
      have hfr655443 : rFr [q655419] P655417 F655418 F655439 := rFr_put' List.mem_cons_self hfr655435 n655441
      refine G_iload 4 dr_cE_Throwable_init4_23 rfl ?_
      refine G_if_eq 36 dr_cE_Throwable_init4_25 (by decide +kernel) (fun _ => ?_) (fun hc => absurd hc (by decide))
      refine G_aload_n 0 dr_cE_Throwable_init4_36 rfl ?_
      refine G_null dr_cE_Throwable_init4_37 ?_
      refine Gp_put 1 hmq655419 he655442 dr_cE_Throwable_init4_38 (gk_X16 D I) (Nat.le_of_ble_eq_true rfl) wr_5_16 rfl rfl rfl (Nat.le_of_ble_eq_true rfl) (fun F655444 e655445 n655446 => ?_)
      have he655447 : F655444 q655419 = .inr (21, [.ref q655419, .null, .null, .null, .null, .int p655420, .int p655421]) := e655445
      have hfr655448 : rFr [q655419] P655417 F655418 F655444 := rFr_put' List.mem_cons_self hfr655443 n655446
      refine G_aload_n 0 dr_cE_Throwable_init4_41 rfl ?_
      refine G_aload_nN 1 dr_cE_Throwable_init4_42 rfl ?_
      refine Gp_put 3 hmq655419 he655447 dr_cE_Throwable_init4_43 (gk_X16 D I) (Nat.le_of_ble_eq_true rfl) wr_5_14 rfl rfl rfl (Nat.le_of_ble_eq_true rfl) (fun F655449 e655450 n655451 => ?_)
      have he655452 : F655449 q655419 = .inr (21, [.ref q655419, .null, .null, .null, .null, .int p655420, .int p655421]) := e655450
      have hfr655453 : rFr [q655419] P655417 F655418 F655449 := rFr_put' List.mem_cons_self hfr655448 n655451
      refine G_aload_n 0 dr_cE_Throwable_init4_46 rfl ?_
      refine G_aload_nN 2 dr_cE_Throwable_init4_47 rfl ?_
      refine Gp_put 0 hmq655419 he655452 dr_cE_Throwable_init4_48 (gk_X16 D I) (Nat.le_of_ble_eq_true rfl) wr_5_15 rfl rfl rfl (Nat.le_of_ble_eq_true rfl) (fun F655454 e655455 n655456 => ?_)
      have he655457 : F655454 q655419 = .inr (21, [.null, .null, .null, .null, .null, .int p655420, .int p655421]) := e655455
      have hfr655458 : rFr [q655419] P655417 F655418 F655454 := rFr_put' List.mem_cons_self hfr655453 n655456
      refine G_iload_n 3 dr_cE_Throwable_init4_51 rfl ?_
      refine G_if_ne 60 dr_cE_Throwable_init4_52 (by decide +kernel) (fun hc => absurd hc (by decide)) (fun _ => ?_)
      refine G_aload_n 0 dr_cE_Throwable_init4_55 rfl ?_
      refine G_null dr_cE_Throwable_init4_56 ?_
      refine Gp_put 2 hmq655419 he655457 dr_cE_Throwable_init4_57 (gk_X16 D I) (Nat.le_of_ble_eq_true rfl) wr_5_17 rfl rfl rfl (Nat.le_of_ble_eq_true rfl) (fun F655459 e655460 n655461 => ?_)
      have he655462 : F655459 q655419 = .inr (21, [.null, .null, .null, .null, .null, .int p655420, .int p655421]) := e655460
      have hfr655463 : rFr [q655419] P655417 F655418 F655459 := rFr_put' List.mem_cons_self hfr655458 n655461
      exact G_vretA dr_cE_Throwable_init4_60 rfl (Nat.le_of_ble_eq_true rfl) (Nat.le_of_ble_eq_true rfl) ⟨F655459, rfl, rfl, hfr655463, he655462, (Nat.le_of_ble_eq_true rfl), (Nat.le_of_ble_eq_true rfl)⟩
    · refine Gp_put 2 hmq655419 he655434 dr_cE_Throwable_init4_20 (gk_X16 D I) (Nat.le_of_ble_eq_true rfl) wr_5_17 rfl rfl rfl (Nat.le_of_ble_eq_true rfl) (fun F655464 e655465 n655466 => ?_)
      have he655467 : F655464 q655419 = .inr (21, [.ref q655419, .null, .ref t655436, .null, .null, .int p655420, .int p655421]) := e655465
      have hfr655468 : rFr [q655419] P655417 F655418 F655464 := rFr_put' List.mem_cons_self hfr655435 n655466
      refine G_iload 4 dr_cE_Throwable_init4_23 rfl ?_
      refine G_if_eq 36 dr_cE_Throwable_init4_25 (by decide +kernel) (fun _ => ?_) (fun hc => absurd hc (by decide))
      refine G_aload_n 0 dr_cE_Throwable_init4_36 rfl ?_
      refine G_null dr_cE_Throwable_init4_37 ?_
      refine Gp_put 1 hmq655419 he655467 dr_cE_Throwable_init4_38 (gk_X16 D I) (Nat.le_of_ble_eq_true rfl) wr_5_16 rfl rfl rfl (Nat.le_of_ble_eq_true rfl) (fun F655469 e655470 n655471 => ?_)
      have he655472 : F655469 q655419 = .inr (21, [.ref q655419, .null, .ref t655436, .null, .null, .int p655420, .int p655421]) := e655470
      have hfr655473 : rFr [q655419] P655417 F655418 F655469 := rFr_put' List.mem_cons_self hfr655468 n655471
      refine G_aload_n 0 dr_cE_Throwable_init4_41 rfl ?_
      refine G_aload_nN 1 dr_cE_Throwable_init4_42 rfl ?_
      refine Gp_put 3 hmq655419 he655472 dr_cE_Throwable_init4_43 (gk_X16 D I) (Nat.le_of_ble_eq_true rfl) wr_5_14 rfl rfl rfl (Nat.le_of_ble_eq_true rfl) (fun F655474 e655475 n655476 => ?_)
      have he655477 : F655474 q655419 = .inr (21, [.ref q655419, .null, .ref t655436, .null, .null, .int p655420, .int p655421]) := e655475
      have hfr655478 : rFr [q655419] P655417 F655418 F655474 := rFr_put' List.mem_cons_self hfr655473 n655476
      refine G_aload_n 0 dr_cE_Throwable_init4_46 rfl ?_
      refine G_aload_nN 2 dr_cE_Throwable_init4_47 rfl ?_
      refine Gp_put 0 hmq655419 he655477 dr_cE_Throwable_init4_48 (gk_X16 D I) (Nat.le_of_ble_eq_true rfl) wr_5_15 rfl rfl rfl (Nat.le_of_ble_eq_true rfl) (fun F655479 e655480 n655481 => ?_)
      have he655482 : F655479 q655419 = .inr (21, [.null, .null, .ref t655436, .null, .null, .int p655420, .int p655421]) := e655480
      have hfr655483 : rFr [q655419] P655417 F655418 F655479 := rFr_put' List.mem_cons_self hfr655478 n655481
      refine G_iload_n 3 dr_cE_Throwable_init4_51 rfl ?_
      refine G_if_ne 60 dr_cE_Throwable_init4_52 (by decide +kernel) (fun hc => absurd hc (by decide)) (fun _ => ?_)
      refine G_aload_n 0 dr_cE_Throwable_init4_55 rfl ?_
      refine G_null dr_cE_Throwable_init4_56 ?_
      refine Gp_put 2 hmq655419 he655482 dr_cE_Throwable_init4_57 (gk_X16 D I) (Nat.le_of_ble_eq_true rfl) wr_5_17 rfl rfl rfl (Nat.le_of_ble_eq_true rfl) (fun F655484 e655485 n655486 => ?_)
      have he655487 : F655484 q655419 = .inr (21, [.null, .null, .null, .null, .null, .int p655420, .int p655421]) := e655485
      have hfr655488 : rFr [q655419] P655417 F655418 F655484 := rFr_put' List.mem_cons_self hfr655483 n655486
      exact G_vretA dr_cE_Throwable_init4_60 rfl (Nat.le_of_ble_eq_true rfl) (Nat.le_of_ble_eq_true rfl) ⟨F655484, rfl, rfl, hfr655488, he655487, (Nat.le_of_ble_eq_true rfl), (Nat.le_of_ble_eq_true rfl)⟩
  · refine Gp_put 1 hmq655419 he655426 dr_cE_Throwable_init4_13 (gk_X16 D I) (Nat.le_of_ble_eq_true rfl) wr_5_16 rfl rfl rfl (Nat.le_of_ble_eq_true rfl) (fun F655489 e655490 n655491 => ?_)
    have he655492 : F655489 q655419 = .inr (21, [.ref q655419, .ref t655428, .null, .null, .null, .int p655420, .int p655421]) := e655490
    have hfr655493 : rFr [q655419] P655417 F655418 F655489 := rFr_put' List.mem_cons_self hfr655427 n655491
    refine G_aload_n 0 dr_cE_Throwable_init4_16 rfl ?_
    refine G_gets dr_cE_Throwable_init4_17 wr_4_223 gz_ss (fun x655496 hx655495 => ?_)
    rcases hx655495 with rfl | ⟨t655494, rfl⟩
    · refine Gp_put 2 hmq655419 he655492 dr_cE_Throwable_init4_20 (gk_X16 D I) (Nat.le_of_ble_eq_true rfl) wr_5_17 rfl rfl rfl (Nat.le_of_ble_eq_true rfl) (fun F655497 e655498 n655499 => ?_)
      have he655500 : F655497 q655419 = .inr (21, [.ref q655419, .ref t655428, .null, .null, .null, .int p655420, .int p655421]) := e655498
      have hfr655501 : rFr [q655419] P655417 F655418 F655497 := rFr_put' List.mem_cons_self hfr655493 n655499
      refine G_iload 4 dr_cE_Throwable_init4_23 rfl ?_
      refine G_if_eq 36 dr_cE_Throwable_init4_25 (by decide +kernel) (fun _ => ?_) (fun hc => absurd hc (by decide))
      refine G_aload_n 0 dr_cE_Throwable_init4_36 rfl ?_
      refine G_null dr_cE_Throwable_init4_37 ?_
      refine Gp_put 1 hmq655419 he655500 dr_cE_Throwable_init4_38 (gk_X16 D I) (Nat.le_of_ble_eq_true rfl) wr_5_16 rfl rfl rfl (Nat.le_of_ble_eq_true rfl) (fun F655502 e655503 n655504 => ?_)
      have he655505 : F655502 q655419 = .inr (21, [.ref q655419, .null, .null, .null, .null, .int p655420, .int p655421]) := e655503
      have hfr655506 : rFr [q655419] P655417 F655418 F655502 := rFr_put' List.mem_cons_self hfr655501 n655504
      refine G_aload_n 0 dr_cE_Throwable_init4_41 rfl ?_
      refine G_aload_nN 1 dr_cE_Throwable_init4_42 rfl ?_
      refine Gp_put 3 hmq655419 he655505 dr_cE_Throwable_init4_43 (gk_X16 D I) (Nat.le_of_ble_eq_true rfl) wr_5_14 rfl rfl rfl (Nat.le_of_ble_eq_true rfl) (fun F655507 e655508 n655509 => ?_)
      have he655510 : F655507 q655419 = .inr (21, [.ref q655419, .null, .null, .null, .null, .int p655420, .int p655421]) := e655508
      have hfr655511 : rFr [q655419] P655417 F655418 F655507 := rFr_put' List.mem_cons_self hfr655506 n655509
      refine G_aload_n 0 dr_cE_Throwable_init4_46 rfl ?_
      refine G_aload_nN 2 dr_cE_Throwable_init4_47 rfl ?_
      refine Gp_put 0 hmq655419 he655510 dr_cE_Throwable_init4_48 (gk_X16 D I) (Nat.le_of_ble_eq_true rfl) wr_5_15 rfl rfl rfl (Nat.le_of_ble_eq_true rfl) (fun F655512 e655513 n655514 => ?_)
      have he655515 : F655512 q655419 = .inr (21, [.null, .null, .null, .null, .null, .int p655420, .int p655421]) := e655513
      have hfr655516 : rFr [q655419] P655417 F655418 F655512 := rFr_put' List.mem_cons_self hfr655511 n655514
      refine G_iload_n 3 dr_cE_Throwable_init4_51 rfl ?_
      refine G_if_ne 60 dr_cE_Throwable_init4_52 (by decide +kernel) (fun hc => absurd hc (by decide)) (fun _ => ?_)
      refine G_aload_n 0 dr_cE_Throwable_init4_55 rfl ?_
      refine G_null dr_cE_Throwable_init4_56 ?_
      refine Gp_put 2 hmq655419 he655515 dr_cE_Throwable_init4_57 (gk_X16 D I) (Nat.le_of_ble_eq_true rfl) wr_5_17 rfl rfl rfl (Nat.le_of_ble_eq_true rfl) (fun F655517 e655518 n655519 => ?_)
      have he655520 : F655517 q655419 = .inr (21, [.null, .null, .null, .null, .null, .int p655420, .int p655421]) := e655518
      have hfr655521 : rFr [q655419] P655417 F655418 F655517 := rFr_put' List.mem_cons_self hfr655516 n655519
      exact G_vretA dr_cE_Throwable_init4_60 rfl (Nat.le_of_ble_eq_true rfl) (Nat.le_of_ble_eq_true rfl) ⟨F655517, rfl, rfl, hfr655521, he655520, (Nat.le_of_ble_eq_true rfl), (Nat.le_of_ble_eq_true rfl)⟩
    · refine Gp_put 2 hmq655419 he655492 dr_cE_Throwable_init4_20 (gk_X16 D I) (Nat.le_of_ble_eq_true rfl) wr_5_17 rfl rfl rfl (Nat.le_of_ble_eq_true rfl) (fun F655522 e655523 n655524 => ?_)
      have he655525 : F655522 q655419 = .inr (21, [.ref q655419, .ref t655428, .ref t655494, .null, .null, .int p655420, .int p655421]) := e655523
      have hfr655526 : rFr [q655419] P655417 F655418 F655522 := rFr_put' List.mem_cons_self hfr655493 n655524
      refine G_iload 4 dr_cE_Throwable_init4_23 rfl ?_
      refine G_if_eq 36 dr_cE_Throwable_init4_25 (by decide +kernel) (fun _ => ?_) (fun hc => absurd hc (by decide))
      refine G_aload_n 0 dr_cE_Throwable_init4_36 rfl ?_
      refine G_null dr_cE_Throwable_init4_37 ?_
      refine Gp_put 1 hmq655419 he655525 dr_cE_Throwable_init4_38 (gk_X16 D I) (Nat.le_of_ble_eq_true rfl) wr_5_16 rfl rfl rfl (Nat.le_of_ble_eq_true rfl) (fun F655527 e655528 n655529 => ?_)
      have he655530 : F655527 q655419 = .inr (21, [.ref q655419, .null, .ref t655494, .null, .null, .int p655420, .int p655421]) := e655528
      have hfr655531 : rFr [q655419] P655417 F655418 F655527 := rFr_put' List.mem_cons_self hfr655526 n655529
      refine G_aload_n 0 dr_cE_Throwable_init4_41 rfl ?_
      refine G_aload_nN 1 dr_cE_Throwable_init4_42 rfl ?_
      refine Gp_put 3 hmq655419 he655530 dr_cE_Throwable_init4_43 (gk_X16 D I) (Nat.le_of_ble_eq_true rfl) wr_5_14 rfl rfl rfl (Nat.le_of_ble_eq_true rfl) (fun F655532 e655533 n655534 => ?_)
      have he655535 : F655532 q655419 = .inr (21, [.ref q655419, .null, .ref t655494, .null, .null, .int p655420, .int p655421]) := e655533
      have hfr655536 : rFr [q655419] P655417 F655418 F655532 := rFr_put' List.mem_cons_self hfr655531 n655534
      refine G_aload_n 0 dr_cE_Throwable_init4_46 rfl ?_
      refine G_aload_nN 2 dr_cE_Throwable_init4_47 rfl ?_
      refine Gp_put 0 hmq655419 he655535 dr_cE_Throwable_init4_48 (gk_X16 D I) (Nat.le_of_ble_eq_true rfl) wr_5_15 rfl rfl rfl (Nat.le_of_ble_eq_true rfl) (fun F655537 e655538 n655539 => ?_)
      have he655540 : F655537 q655419 = .inr (21, [.null, .null, .ref t655494, .null, .null, .int p655420, .int p655421]) := e655538
      have hfr655541 : rFr [q655419] P655417 F655418 F655537 := rFr_put' List.mem_cons_self hfr655536 n655539
      refine G_iload_n 3 dr_cE_Throwable_init4_51 rfl ?_
      refine G_if_ne 60 dr_cE_Throwable_init4_52 (by decide +kernel) (fun hc => absurd hc (by decide)) (fun _ => ?_)
      refine G_aload_n 0 dr_cE_Throwable_init4_55 rfl ?_
      refine G_null dr_cE_Throwable_init4_56 ?_
      refine Gp_put 2 hmq655419 he655540 dr_cE_Throwable_init4_57 (gk_X16 D I) (Nat.le_of_ble_eq_true rfl) wr_5_17 rfl rfl rfl (Nat.le_of_ble_eq_true rfl) (fun F655542 e655543 n655544 => ?_)
      have he655545 : F655542 q655419 = .inr (21, [.null, .null, .null, .null, .null, .int p655420, .int p655421]) := e655543
      have hfr655546 : rFr [q655419] P655417 F655418 F655542 := rFr_put' List.mem_cons_self hfr655541 n655544
      exact G_vretA dr_cE_Throwable_init4_60 rfl (Nat.le_of_ble_eq_true rfl) (Nat.le_of_ble_eq_true rfl) ⟨F655542, rfl, rfl, hfr655546, he655545, (Nat.le_of_ble_eq_true rfl), (Nat.le_of_ble_eq_true rfl)⟩
abbrev ky_655416_Exception_init : gKey := (cE_Exception_init4, 5, "java/lang/Exception", none, [], "<init>", fun _ _ => True)
def pp_655416_Exception_init (D : va_G) (I : FieldType → ClassId) (P655411 : List Nat) (F655412 : Nat → va_E) (q655413 : Nat) (p655414 : Int32) (p655415 : Int32) : Option Value → va_W → Nat → Nat → Prop := fun r w dc ds => ∃ (F655560 : Nat → va_E), r = none ∧ w = va_pl P655411 F655560 ∧ rFr [q655413] P655411 F655412 F655560 ∧ F655560 q655413 = .inr (21, [.null, .null, .null, .null, .null, .int p655414, .int p655415]) ∧ dc ≤ 0 ∧ ds ≤ 0
set_option maxRecDepth 100000 in
set_option maxHeartbeats 4000000 in
theorem cp_655416_Exception_init (l : Launch) (hl0 : l.stackTraces = false) (D : va_G) (I : FieldType → ClassId) (P655411 : List Nat) (F655412 : Nat → va_E) (q655413 : Nat) (p655414 : Int32) (p655415 : Int32) (hmq655413 : q655413 ∈ P655411) (heq655413 : F655412 q655413 = .inr (21, [.null, .null, .null, .null, .null, .int p655414, .int p655415])) (bp655415 : gB p655415 0 8192) : CtA (gV D I) l yE_Exception_init4 cE_Exception_init4 5 none 2 36 0 0 [.ref q655413, .null, .null, .int 0, .int 0] (va_pl P655411 F655412) (pp_655416_Exception_init D I P655411 F655412 q655413 p655414 p655415) gNA := by
  refine CtA_ofF hl0 (by decide +kernel) (Nat.le_of_ble_eq_true rfl) ?_
  have bp655414 := gB_any p655414
  refine G_aload_n 0 dr_cE_Exception_init4_0 rfl ?_
  refine G_aload_nN 1 dr_cE_Exception_init4_1 rfl ?_
  refine G_aload_nN 2 dr_cE_Exception_init4_2 rfl ?_
  refine G_iload_n 3 dr_cE_Exception_init4_3 rfl ?_
  refine G_iload 4 dr_cE_Exception_init4_4 rfl ?_
  refine Gw_callI (As := [.null, .null, .int 0, .int 0]) (gV_ok D I) (cp_655422_Throwable_init l hl0 D I P655411 F655412 q655413 p655414 p655415 hmq655413 heq655413 bp655415) dr_cE_Exception_init4_6 ⟨wr_9_119, wr_1_23, wr_9_121, by decide, rfl, (Nat.le_of_ble_eq_true rfl), (Nat.le_of_ble_eq_true rfl)⟩ wr_9_120 rfl (show 0 + 0 ≤ 0 by first | omega | decide) (show 0 + 0 ≤ 0 by first | omega | decide) (Nat.le_of_ble_eq_true rfl) (fun r655552 w655553 dc655549 ds655550 hp655551 => ?_)
  obtain ⟨F655554, rfl, rfl, hfr655556, he655557, hdc, hds⟩ := hp655551
  have hfr655558 : rFr [q655413] P655411 F655412 F655554 := rFr_call (rSub_rf (P := P655411)) (rFr_rf (W := []) (P := P655411) (F := F655412)) hfr655556 (fun b hb hn => ⟨nm_n, (nm_c (fun e => hn (e ▸ List.mem_cons_self)) nm_n)⟩)
  change G _ _ _ _ _ _ _ _ _ _ _
  refine G_widen (cs' := 0) (sl' := 0) (by omega) (by omega) ?_
  exact G_vretA dr_cE_Exception_init4_9 rfl (Nat.le_of_ble_eq_true rfl) (Nat.le_of_ble_eq_true rfl) ⟨F655554, rfl, rfl, hfr655558, he655557, (Nat.le_of_ble_eq_true rfl), (Nat.le_of_ble_eq_true rfl)⟩
abbrev ky_655410_RuntimeException_init : gKey := (cE_RuntimeException_init4, 5, "java/lang/RuntimeException", none, [], "<init>", fun _ _ => True)
def pp_655410_RuntimeException_init (D : va_G) (I : FieldType → ClassId) (P655405 : List Nat) (F655406 : Nat → va_E) (q655407 : Nat) (p655408 : Int32) (p655409 : Int32) : Option Value → va_W → Nat → Nat → Prop := fun r w dc ds => ∃ (F655572 : Nat → va_E), r = none ∧ w = va_pl P655405 F655572 ∧ rFr [q655407] P655405 F655406 F655572 ∧ F655572 q655407 = .inr (21, [.null, .null, .null, .null, .null, .int p655408, .int p655409]) ∧ dc ≤ 0 ∧ ds ≤ 0
set_option maxRecDepth 100000 in
set_option maxHeartbeats 4000000 in
theorem cp_655410_RuntimeException_init (l : Launch) (hl0 : l.stackTraces = false) (D : va_G) (I : FieldType → ClassId) (P655405 : List Nat) (F655406 : Nat → va_E) (q655407 : Nat) (p655408 : Int32) (p655409 : Int32) (hmq655407 : q655407 ∈ P655405) (heq655407 : F655406 q655407 = .inr (21, [.null, .null, .null, .null, .null, .int p655408, .int p655409])) (bp655409 : gB p655409 0 8192) : CtA (gV D I) l yE_RuntimeException_init4 cE_RuntimeException_init4 5 none 3 60 0 0 [.ref q655407, .null, .null, .int 0, .int 0] (va_pl P655405 F655406) (pp_655410_RuntimeException_init D I P655405 F655406 q655407 p655408 p655409) gNA := by
  refine CtA_ofF hl0 (by decide +kernel) (Nat.le_of_ble_eq_true rfl) ?_
  have bp655408 := gB_any p655408
  refine G_aload_n 0 dr_cE_RuntimeException_init4_0 rfl ?_
  refine G_aload_nN 1 dr_cE_RuntimeException_init4_1 rfl ?_
  refine G_aload_nN 2 dr_cE_RuntimeException_init4_2 rfl ?_
  refine G_iload_n 3 dr_cE_RuntimeException_init4_3 rfl ?_
  refine G_iload 4 dr_cE_RuntimeException_init4_4 rfl ?_
  refine Gw_callI (As := [.null, .null, .int 0, .int 0]) (gV_ok D I) (cp_655416_Exception_init l hl0 D I P655405 F655406 q655407 p655408 p655409 hmq655407 heq655407 bp655409) dr_cE_RuntimeException_init4_6 ⟨wr_9_116, wr_1_24, wr_9_118, by decide, rfl, (Nat.le_of_ble_eq_true rfl), (Nat.le_of_ble_eq_true rfl)⟩ wr_9_117 rfl (show 0 + 0 ≤ 0 by first | omega | decide) (show 0 + 0 ≤ 0 by first | omega | decide) (Nat.le_of_ble_eq_true rfl) (fun r655564 w655565 dc655561 ds655562 hp655563 => ?_)
  obtain ⟨F655566, rfl, rfl, hfr655568, he655569, hdc, hds⟩ := hp655563
  have hfr655570 : rFr [q655407] P655405 F655406 F655566 := rFr_call (rSub_rf (P := P655405)) (rFr_rf (W := []) (P := P655405) (F := F655406)) hfr655568 (fun b hb hn => ⟨nm_n, (nm_c (fun e => hn (e ▸ List.mem_cons_self)) nm_n)⟩)
  change G _ _ _ _ _ _ _ _ _ _ _
  refine G_widen (cs' := 0) (sl' := 0) (by omega) (by omega) ?_
  exact G_vretA dr_cE_RuntimeException_init4_9 rfl (Nat.le_of_ble_eq_true rfl) (Nat.le_of_ble_eq_true rfl) ⟨F655566, rfl, rfl, hfr655570, he655569, (Nat.le_of_ble_eq_true rfl), (Nat.le_of_ble_eq_true rfl)⟩
abbrev ky_655404_Wrong_init : gKey := (cX16_init, 2, "SpillForgeModel$Wrong", none, [], "<init>", fun _ _ => True)
def pp_655404_Wrong_init (D : va_G) (I : FieldType → ClassId) (P655398 : List Nat) (F655399 : Nat → va_E) (q655400 : Nat) (p655401 : Int32) (p655402 : Int32) (p655403 : Int32) : Option Value → va_W → Nat → Nat → Prop := fun r w dc ds => ∃ (F655589 : Nat → va_E), r = none ∧ w = va_pl P655398 F655589 ∧ rFr [q655400] P655398 F655399 F655589 ∧ F655589 q655400 = .inr (21, [.null, .null, .null, .null, .null, .int p655402, .int p655401]) ∧ dc ≤ 0 ∧ ds ≤ 0
set_option maxRecDepth 100000 in
set_option maxHeartbeats 4000000 in
theorem cp_655404_Wrong_init (l : Launch) (hl0 : l.stackTraces = false) (D : va_G) (I : FieldType → ClassId) (P655398 : List Nat) (F655399 : Nat → va_E) (q655400 : Nat) (p655401 : Int32) (p655402 : Int32) (p655403 : Int32) (hmq655400 : q655400 ∈ P655398) (heq655400 : F655399 q655400 = .inr (21, [.null, .null, .null, .null, .null, .int p655402, .int p655403])) (bp655403 : gB p655403 0 8192) : CtA (gV D I) l yX16_init cX16_init 2 none 4 84 0 0 [.ref q655400, .int p655401] (va_pl P655398 F655399) (pp_655404_Wrong_init D I P655398 F655399 q655400 p655401 p655402 p655403) gNA := by
  refine CtA_of hl0 (by decide) (Nat.le_of_ble_eq_true rfl) ?_
  have bp655401 := gB_any p655401
  have bp655402 := gB_any p655402
  refine G_aload_n 0 dr_cX16_init_0 rfl ?_
  refine G_null dr_cX16_init_1 ?_
  refine G_null dr_cX16_init_2 ?_
  refine G_iconst 0 dr_cX16_init_3 (by decide +kernel) ?_
  refine G_iconst 0 dr_cX16_init_4 (by decide +kernel) ?_
  refine Gw_callI (As := [.null, .null, .int 0, .int 0]) (gV_ok D I) (cp_655410_RuntimeException_init l hl0 D I P655398 F655399 q655400 p655402 p655403 hmq655400 heq655400 bp655403) dr_cX16_init_5 ⟨wr_9_113, wr_1_25, wr_9_115, by decide, rfl, (Nat.le_of_ble_eq_true rfl), (Nat.le_of_ble_eq_true rfl)⟩ wr_9_114 rfl (show 0 + 0 ≤ 0 by first | omega | decide) (show 0 + 0 ≤ 0 by first | omega | decide) (Nat.le_of_ble_eq_true rfl) (fun r655576 w655577 dc655573 ds655574 hp655575 => ?_)
  obtain ⟨F655578, rfl, rfl, hfr655580, he655581, hdc, hds⟩ := hp655575
  have hfr655582 : rFr [q655400] P655398 F655399 F655578 := rFr_call (rSub_rf (P := P655398)) (rFr_rf (W := []) (P := P655398) (F := F655399)) hfr655580 (fun b hb hn => ⟨nm_n, (nm_c (fun e => hn (e ▸ List.mem_cons_self)) nm_n)⟩)
  change G _ _ _ _ _ _ _ _ _ _ _
  refine G_widen (cs' := 0) (sl' := 0) (by omega) (by omega) ?_
  refine G_aload_n 0 dr_cX16_init_8 rfl ?_
  refine G_iload_n 1 dr_cX16_init_9 rfl ?_
  refine Gp_putF 6 hmq655400 he655581 dr_cX16_init_10 (gk_X16 D I) (Nat.le_of_ble_eq_true rfl) wr_9_122 rfl rfl rfl rfl rfl (Nat.le_of_ble_eq_true rfl) (fun F655583 e655584 n655585 => ?_)
  have he655586 : F655583 q655400 = .inr (21, [.null, .null, .null, .null, .null, .int p655402, .int p655401]) := e655584
  have hfr655587 : rFr [q655400] P655398 F655399 F655583 := rFr_put' List.mem_cons_self hfr655582 n655585
  exact G_vretA dr_cX16_init_13 rfl (Nat.le_of_ble_eq_true rfl) (Nat.le_of_ble_eq_true rfl) ⟨F655583, rfl, rfl, hfr655587, he655586, (Nat.le_of_ble_eq_true rfl), (Nat.le_of_ble_eq_true rfl)⟩
abbrev ky_655381_Reader_no : gKey := (cX14_no, 1, "SpillForgeModel$Reader", (some (FieldType.object "SpillForgeModel$Wrong")), [], "no", fun _ _ => True)
def pp_655381_Reader_no (D : va_G) (I : FieldType → ClassId) (P655363 : List Nat) (F655364 : Nat → va_E) (q655365 : Nat) (q655366 : Nat) (p655367 : Int32) (p655368 : Int32) (p655369 : Int32) (p655370 : Int32) (p655371 : Int32) (p655372 : Int32) (qo655373 : Nat) (p655374 : Int32) (p655375 : Int32) (p655376 : Int32) (qo655377 : Nat) (qo655378 : Nat) (p655379 : Int32) (f655380 : Nat → Int32) : Option Value → va_W → Nat → Nat → Prop := fun r w dc ds => ∃ (P655603 : List Nat) (F655604 : Nat → va_E) (q655602 : Nat), r = some (.ref q655602) ∧ w = va_pl P655603 F655604 ∧ rSub P655363 P655603 ∧ rFr [] P655363 F655364 F655604 ∧ F655604 q655365 = .inr (19, [.ref q655366, .int p655367, .int p655368, .int p655369, .int p655370, .int p655371, .int p655372, .ref qo655373, .int p655374, .int p655375, .int p655376, .ref qo655377, .ref qo655378, .int p655379]) ∧ F655604 q655366 = .inl (I .byte, 8192, .inl f655380) ∧ F655604 q655602 = .inr (21, [.null, .null, .null, .null, .null, .int 0, .int p655370]) ∧ q655602 ∈ P655603 ∧ q655602 ∉ P655363 ∧ dc ≤ 1 ∧ ds ≤ 7
set_option maxRecDepth 100000 in
set_option maxHeartbeats 4000000 in
theorem cp_655381_Reader_no (l : Launch) (hl0 : l.stackTraces = false) (D : va_G) (I : FieldType → ClassId) (P655363 : List Nat) (F655364 : Nat → va_E) (q655365 : Nat) (q655366 : Nat) (p655367 : Int32) (p655368 : Int32) (p655369 : Int32) (p655370 : Int32) (p655371 : Int32) (p655372 : Int32) (qo655373 : Nat) (p655374 : Int32) (p655375 : Int32) (p655376 : Int32) (qo655377 : Nat) (qo655378 : Nat) (p655379 : Int32) (f655380 : Nat → Int32) (hmq655365 : q655365 ∈ P655363) (hmq655366 : q655366 ∈ P655363) (heq655365 : F655364 q655365 = .inr (19, [.ref q655366, .int p655367, .int p655368, .int p655369, .int p655370, .int p655371, .int p655372, .ref qo655373, .int p655374, .int p655375, .int p655376, .ref qo655377, .ref qo655378, .int p655379])) (heq655366 : F655364 q655366 = .inl (I .byte, 8192, .inl f655380)) (bp655367 : gB p655367 0 8192) (bp655368 : gB p655368 0 8192) (bp655369 : gB p655369 0 6) (bp655370 : gB p655370 0 8192) (bp655372 : gB p655372 0 6) (bp655374 : gB p655374 (-1) 8192) (bp655375 : gB p655375 0 4) (bp655376 : gB p655376 0 1000000) (bp655379 : gB p655379 0 1000000) (bf655380 : gF f655380 (-128) 127) : CtA (gV D I) l yX14_no cX14_no 1 (some (FieldType.object "SpillForgeModel$Wrong")) 5 105 1 7 [.ref q655365] (va_pl P655363 F655364) (pp_655381_Reader_no D I P655363 F655364 q655365 q655366 p655367 p655368 p655369 p655370 p655371 p655372 qo655373 p655374 p655375 p655376 qo655377 qo655378 p655379 f655380) gNA := by
  refine CtA_of hl0 (by decide) (Nat.le_of_ble_eq_true rfl) ?_
  have bp655371 := gB_any p655371
  refine G_new [.null, .null, .null, .null, .null, .int 0, .int 0] dr_cX14_no_0 (gk_X16 D I) wr_9_101 wr_9_102 wr_1_37 (gfs_X16) (show 0 + 1 ≤ 1 by first | omega | decide) (show 0 + 7 ≤ 7 by first | omega | decide) (fun q655382 => Gp_in (fun P655383 F655384 hq655385 hP655386 e655387 n655388 => ?_))
  refine G_widen (cs' := 1) (sl' := 7) (by omega) (by omega) ?_
  have he655389 : F655384 q655365 = .inr (19, [.ref q655366, .int p655367, .int p655368, .int p655369, .int p655370, .int p655371, .int p655372, .ref qo655373, .int p655374, .int p655375, .int p655376, .ref qo655377, .ref qo655378, .int p655379]) := (n655388 q655365 (fun h => hq655385 (h ▸ hmq655365))).trans heq655365
  have he655390 : F655384 q655366 = .inl (I .byte, 8192, .inl f655380) := (n655388 q655366 (fun h => hq655385 (h ▸ hmq655366))).trans heq655366
  have he655391 : F655384 q655382 = .inr (21, [.null, .null, .null, .null, .null, .int 0, .int 0]) := e655387
  have hm655392 : q655365 ∈ P655383 := (hP655386 q655365).mpr (Or.inl hmq655365)
  have hm655393 : q655366 ∈ P655383 := (hP655386 q655366).mpr (Or.inl hmq655366)
  have hm655394 : q655382 ∈ P655383 := (hP655386 q655382).mpr (Or.inr rfl)
  have hq655395 : q655382 ∉ P655363 := fun z => hq655385 ((rSub_rf (P := P655363)) q655382 z)
  have hfr655396 : rFr [] P655363 F655364 F655384 := rFr_new (rSub_rf (P := P655363)) hq655385 (rFr_rf (W := []) (P := P655363) (F := F655364)) n655388
  have hsb655397 : rSub P655363 P655383 := rSub_new (rSub_rf (P := P655363)) hP655386
  refine G_dup dr_cX14_no_3 rfl ?_
  refine G_aload_n 0 dr_cX14_no_4 rfl ?_
  refine Gp_get 4 hm655392 he655389 dr_cX14_no_5 (gk_X14 D I) (Nat.le_of_ble_eq_true rfl) wr_9_40 rfl ?_
  refine Gw_callI (As := [.int p655370]) (gV_ok D I) (cp_655404_Wrong_init l hl0 D I P655383 F655384 q655382 p655370 0 0 hm655394 he655391 (gB_w (gBl (show Int32.toInt 0 = 0 by decide)) (by decide) (by decide))) dr_cX14_no_8 ⟨wr_9_110, wr_1_37, wr_9_112, by decide, rfl, (Nat.le_of_ble_eq_true rfl), (Nat.le_of_ble_eq_true rfl)⟩ wr_9_111 rfl (show 1 + 0 ≤ 1 by first | omega | decide) (show 7 + 0 ≤ 7 by first | omega | decide) (Nat.le_of_ble_eq_true rfl) (fun r655593 w655594 dc655590 ds655591 hp655592 => ?_)
  obtain ⟨F655595, rfl, rfl, hfr655597, he655598, hdc, hds⟩ := hp655592
  have he655599 : F655595 q655365 = .inr (19, [.ref q655366, .int p655367, .int p655368, .int p655369, .int p655370, .int p655371, .int p655372, .ref qo655373, .int p655374, .int p655375, .int p655376, .ref qo655377, .ref qo655378, .int p655379]) := (hfr655597 q655365 hm655392 (nm_c (fun h => hq655395 (h ▸ hmq655365)) nm_n)).trans he655389
  have he655600 : F655595 q655366 = .inl (I .byte, 8192, .inl f655380) := (hfr655597 q655366 hm655393 (nm_c (fun h => hq655395 (h ▸ hmq655366)) nm_n)).trans he655390
  have hfr655601 : rFr [] P655363 F655364 F655595 := rFr_call hsb655397 hfr655396 hfr655597 (fun b hb hn => ⟨nm_n, (nm_c (fun e => hq655395 (e ▸ hb)) nm_n)⟩)
  change G _ _ _ _ _ _ _ _ _ _ _
  refine G_widen (cs' := 1) (sl' := 7) (by omega) (by omega) ?_
  exact G_aretA (FieldType.object "SpillForgeModel$Wrong") dr_cX14_no_11 rfl (by first | exact Or.inl ⟨_, rfl⟩ | exact Or.inr ⟨_, rfl⟩) (Or.inr ⟨_, rfl⟩) (Nat.le_of_ble_eq_true rfl) (Nat.le_of_ble_eq_true rfl) ⟨P655383, F655595, q655382, rfl, rfl, hsb655397, hfr655601, he655599, he655600, he655598, hm655394, hq655395, (Nat.le_of_ble_eq_true rfl), (Nat.le_of_ble_eq_true rfl)⟩
abbrev ky_655627_Reader_is : gKey := (cX14_is, 2, "SpillForgeModel$Reader", (some FieldType.boolean), [], "is", fun _ _ => True)
def pp_655627_Reader_is (D : va_G) (I : FieldType → ClassId) (P655605 : List Nat) (F655606 : Nat → va_E) (q655607 : Nat) (q655608 : Nat) (qs655609 : Nat) (qb655610 : Nat) (bs655611 : List Int32) (p655612 : Int32) (p655613 : Int32) (p655614 : Int32) (p655615 : Int32) (p655616 : Int32) (p655617 : Int32) (qo655618 : Nat) (p655619 : Int32) (p655620 : Int32) (p655621 : Int32) (qo655622 : Nat) (qo655623 : Nat) (p655624 : Int32) (f655625 : Nat → Int32) : Option Value → va_W → Nat → Nat → Prop := fun r w dc ds => ∃ (o655682 : Int32), r = some (.int o655682) ∧ w = va_pl P655605 F655606 ∧ dc ≤ 0 ∧ ds ≤ 0 ∧ gB o655682 0 1 ∧ isK p655614 o655682
set_option maxRecDepth 100000 in
set_option maxHeartbeats 4000000 in
theorem cp_655627_Reader_is (l : Launch) (hl0 : l.stackTraces = false) (D : va_G) (I : FieldType → ClassId) (P655605 : List Nat) (F655606 : Nat → va_E) (q655607 : Nat) (q655608 : Nat) (qs655609 : Nat) (qb655610 : Nat) (bs655611 : List Int32) (p655612 : Int32) (p655613 : Int32) (p655614 : Int32) (p655615 : Int32) (p655616 : Int32) (p655617 : Int32) (qo655618 : Nat) (p655619 : Int32) (p655620 : Int32) (p655621 : Int32) (qo655622 : Nat) (qo655623 : Nat) (p655624 : Int32) (f655625 : Nat → Int32) (hmq655607 : q655607 ∈ P655605) (hmq655608 : q655608 ∈ P655605) (heq655607 : F655606 q655607 = .inr (19, [.ref q655608, .int p655612, .int p655613, .int p655614, .int p655615, .int p655616, .int p655617, .ref qo655618, .int p655619, .int p655620, .int p655621, .ref qo655622, .ref qo655623, .int p655624])) (heq655608 : F655606 q655608 = .inl (I .byte, 8192, .inl f655625)) (hbs655611 : ∀ A s H, (gV D I).2.2.2.1 A s H → gSC qs655609 qb655610 bs655611 A s H) (nbs655611 : (bs655611.length : Int) ≤ 65535) (lbs655611 : gLB bs655611) (bp655612 : gB p655612 0 8192) (bp655613 : gB p655613 0 8192) (bp655614 : gB p655614 0 6) (bp655615 : gB p655615 0 8192) (bp655617 : gB p655617 0 6) (bp655619 : gB p655619 (-1) 8192) (bp655620 : gB p655620 0 4) (bp655621 : gB p655621 0 1000000) (bp655624 : gB p655624 0 1000000) (bf655625 : gF f655625 (-128) 127) (x655626 : tP I P655605 F655606 p655614 qo655618 qo655623 qo655622) : CtA (gV D I) l yX14_is cX14_is 2 (some FieldType.boolean) 2 44 0 0 [.ref q655607, .ref qs655609] (va_pl P655605 F655606) (pp_655627_Reader_is D I P655605 F655606 q655607 q655608 qs655609 qb655610 bs655611 p655612 p655613 p655614 p655615 p655616 p655617 qo655618 p655619 p655620 p655621 qo655622 qo655623 p655624 f655625) gNA := by
  refine CtA_of hl0 (by decide) (Nat.le_of_ble_eq_true rfl) ?_
  have bp655616 := gB_any p655616
  refine G_aload_n 0 dr_cX14_is_0 rfl ?_
  refine Gp_get 3 hmq655607 heq655607 dr_cX14_is_1 (gk_X14 D I) (Nat.le_of_ble_eq_true rfl) wr_9_39 rfl ?_
  refine G_iconst 5 dr_cX14_is_4 (by decide +kernel) ?_
  refine G_icmp_eq 16 dr_cX14_is_5 (by decide +kernel) (fun hc655628 => ?_) (fun hc655628 => ?_)
  · have r655629 : p655614.toInt = 5 := gj_eq hc655628 (show Int32.toInt 5 = 5 by decide)
    have bp655614' : gB p655614 5 5 := ⟨by omega, by omega⟩
    refine G_aload_n 0 dr_cX14_is_16 rfl ?_
    refine Gp_get 7 hmq655607 heq655607 dr_cX14_is_17 (gk_X14 D I) (Nat.le_of_ble_eq_true rfl) wr_9_43 rfl ?_
    obtain ⟨q655630, n655631, f655632, p655633, p655634, hm655635, he655636, hm655637, he655638, bf655632, x655639, bp655634, hg655640, hg655641⟩ := x655626.2 (by omega)
    have bp655633 := gB_any p655633
    refine G_aload_n 1 dr_cX14_is_20 rfl ?_
    refine Gw_callV (As := [.ref qs655609]) (gV_ok D I) (cp_641573_String_equals l hl0 D I P655605 F655606 qo655618 q655630 qs655609 qb655610 bs655611 p655633 p655634 f655632 n655631 hm655635 hm655637 he655636 he655638 hbs655611 nbs655611 lbs655611 bp655634 bf655632 (by have qa0 : Int32.toInt 0 = 0 := (by decide); omega)) dr_cX14_is_21 ⟨wr_9_145, wr_1_21, wr_9_148, by decide, rfl, (Nat.le_of_ble_eq_true rfl), (Nat.le_of_ble_eq_true rfl)⟩ wr_9_146 wr_9_147 hm655635 he655636 rfl (show 0 + 0 ≤ 0 by first | omega | decide) (show 0 + 0 ≤ 0 by first | omega | decide) (Nat.le_of_ble_eq_true rfl) (fun r655645 w655646 dc655642 ds655643 hp655644 => ?_) (fun _ _ _ _ _ z => z.elim)
    rcases hp655644 with ⟨o655647, rfl, rfl, hdc, hds, r655648, r655649⟩ | ⟨o655650, rfl, rfl, hdc, hds, r655651, r655652⟩ | ⟨rfl, rfl, hdc, hds⟩
    · change G _ _ _ _ _ _ _ (.int 0 :: _) _ _ _
      refine G_widen (cs' := 0) (sl' := 0) (by omega) (by omega) ?_
      refine G_if_eq 31 dr_cX14_is_24 (by decide +kernel) (fun _ => ?_) (fun hc => absurd hc (by decide))
      refine G_iconst 0 dr_cX14_is_31 (by decide +kernel) ?_
      exact G_zretA FieldType.boolean dr_cX14_is_32 rfl rfl (Nat.le_of_ble_eq_true rfl) (Nat.le_of_ble_eq_true rfl) ⟨0, rfl, rfl, (Nat.le_of_ble_eq_true rfl), (Nat.le_of_ble_eq_true rfl), (gB_w (gBl (show Int32.toInt 0 = 0 by decide)) (by decide) (by decide)), (Or.inl (by decide))⟩
    · change G _ _ _ _ _ _ _ (.int 1 :: _) _ _ _
      refine G_widen (cs' := 0) (sl' := 0) (by omega) (by omega) ?_
      refine G_if_eq 31 dr_cX14_is_24 (by decide +kernel) (fun hc => absurd hc (by decide)) (fun _ => ?_)
      refine G_iconst 1 dr_cX14_is_27 (by decide +kernel) ?_
      refine G_goto 32 dr_cX14_is_28 (by decide +kernel) ?_
      exact G_zretA FieldType.boolean dr_cX14_is_32 rfl rfl (Nat.le_of_ble_eq_true rfl) (Nat.le_of_ble_eq_true rfl) ⟨1, rfl, rfl, (Nat.le_of_ble_eq_true rfl), (Nat.le_of_ble_eq_true rfl), (gB_w (gBl (show Int32.toInt 1 = 1 by decide)) (by decide) (by decide)), (Or.inr (by omega))⟩
    · change G _ _ _ _ _ _ _ (.int 1 :: _) _ _ _
      refine G_widen (cs' := 0) (sl' := 0) (by omega) (by omega) ?_
      refine G_if_eq 31 dr_cX14_is_24 (by decide +kernel) (fun hc => absurd hc (by decide)) (fun _ => ?_)
      refine G_iconst 1 dr_cX14_is_27 (by decide +kernel) ?_
      refine G_goto 32 dr_cX14_is_28 (by decide +kernel) ?_
      exact G_zretA FieldType.boolean dr_cX14_is_32 rfl rfl (Nat.le_of_ble_eq_true rfl) (Nat.le_of_ble_eq_true rfl) ⟨1, rfl, rfl, (Nat.le_of_ble_eq_true rfl), (Nat.le_of_ble_eq_true rfl), (gB_w (gBl (show Int32.toInt 1 = 1 by decide)) (by decide) (by decide)), (Or.inr (by omega))⟩
  · have r655654 : p655614.toInt ≠ 5 := gj_neq hc655628 (show Int32.toInt 5 = 5 by decide)
    refine G_aload_n 0 dr_cX14_is_8 rfl ?_
    refine Gp_get 3 hmq655607 heq655607 dr_cX14_is_9 (gk_X14 D I) (Nat.le_of_ble_eq_true rfl) wr_9_39 rfl ?_
    refine G_iconst 1 dr_cX14_is_12 (by decide +kernel) ?_
    refine G_icmp_ne 31 dr_cX14_is_13 (by decide +kernel) (fun hc655655 => ?_) (fun hc655655 => ?_)
    · have r655656 : p655614.toInt ≠ 1 := gj_neq hc655655 (show Int32.toInt 1 = 1 by decide)
      refine G_iconst 0 dr_cX14_is_31 (by decide +kernel) ?_
      exact G_zretA FieldType.boolean dr_cX14_is_32 rfl rfl (Nat.le_of_ble_eq_true rfl) (Nat.le_of_ble_eq_true rfl) ⟨0, rfl, rfl, (Nat.le_of_ble_eq_true rfl), (Nat.le_of_ble_eq_true rfl), (gB_w (gBl (show Int32.toInt 0 = 0 by decide)) (by decide) (by decide)), (Or.inl (by decide))⟩
    · have r655657 : p655614.toInt = 1 := gj_eq hc655655 (show Int32.toInt 1 = 1 by decide)
      have bp655614' : gB p655614 1 1 := ⟨by omega, by omega⟩
      refine G_aload_n 0 dr_cX14_is_16 rfl ?_
      refine Gp_get 7 hmq655607 heq655607 dr_cX14_is_17 (gk_X14 D I) (Nat.le_of_ble_eq_true rfl) wr_9_43 rfl ?_
      obtain ⟨q655658, n655659, f655660, p655661, p655662, hm655663, he655664, hm655665, he655666, bf655660, x655667, bp655662, hg655668, hg655669⟩ := x655626.1 (by omega)
      have bp655661 := gB_any p655661
      refine G_aload_n 1 dr_cX14_is_20 rfl ?_
      refine Gw_callV (As := [.ref qs655609]) (gV_ok D I) (cp_641573_String_equals l hl0 D I P655605 F655606 qo655618 q655658 qs655609 qb655610 bs655611 p655661 p655662 f655660 n655659 hm655663 hm655665 he655664 he655666 hbs655611 nbs655611 lbs655611 bp655662 bf655660 (by have qa0 : Int32.toInt 0 = 0 := (by decide); omega)) dr_cX14_is_21 ⟨wr_9_145, wr_1_21, wr_9_148, by decide, rfl, (Nat.le_of_ble_eq_true rfl), (Nat.le_of_ble_eq_true rfl)⟩ wr_9_146 wr_9_147 hm655663 he655664 rfl (show 0 + 0 ≤ 0 by first | omega | decide) (show 0 + 0 ≤ 0 by first | omega | decide) (Nat.le_of_ble_eq_true rfl) (fun r655673 w655674 dc655670 ds655671 hp655672 => ?_) (fun _ _ _ _ _ z => z.elim)
      rcases hp655672 with ⟨o655675, rfl, rfl, hdc, hds, r655676, r655677⟩ | ⟨o655678, rfl, rfl, hdc, hds, r655679, r655680⟩ | ⟨rfl, rfl, hdc, hds⟩
      · change G _ _ _ _ _ _ _ (.int 0 :: _) _ _ _
        refine G_widen (cs' := 0) (sl' := 0) (by omega) (by omega) ?_
        refine G_if_eq 31 dr_cX14_is_24 (by decide +kernel) (fun _ => ?_) (fun hc => absurd hc (by decide))
        refine G_iconst 0 dr_cX14_is_31 (by decide +kernel) ?_
        exact G_zretA FieldType.boolean dr_cX14_is_32 rfl rfl (Nat.le_of_ble_eq_true rfl) (Nat.le_of_ble_eq_true rfl) ⟨0, rfl, rfl, (Nat.le_of_ble_eq_true rfl), (Nat.le_of_ble_eq_true rfl), (gB_w (gBl (show Int32.toInt 0 = 0 by decide)) (by decide) (by decide)), (Or.inl (by decide))⟩
      · change G _ _ _ _ _ _ _ (.int 1 :: _) _ _ _
        refine G_widen (cs' := 0) (sl' := 0) (by omega) (by omega) ?_
        refine G_if_eq 31 dr_cX14_is_24 (by decide +kernel) (fun hc => absurd hc (by decide)) (fun _ => ?_)
        refine G_iconst 1 dr_cX14_is_27 (by decide +kernel) ?_
        refine G_goto 32 dr_cX14_is_28 (by decide +kernel) ?_
        exact G_zretA FieldType.boolean dr_cX14_is_32 rfl rfl (Nat.le_of_ble_eq_true rfl) (Nat.le_of_ble_eq_true rfl) ⟨1, rfl, rfl, (Nat.le_of_ble_eq_true rfl), (Nat.le_of_ble_eq_true rfl), (gB_w (gBl (show Int32.toInt 1 = 1 by decide)) (by decide) (by decide)), (Or.inr (by omega))⟩
      · change G _ _ _ _ _ _ _ (.int 1 :: _) _ _ _
        refine G_widen (cs' := 0) (sl' := 0) (by omega) (by omega) ?_
        refine G_if_eq 31 dr_cX14_is_24 (by decide +kernel) (fun hc => absurd hc (by decide)) (fun _ => ?_)
        refine G_iconst 1 dr_cX14_is_27 (by decide +kernel) ?_
        refine G_goto 32 dr_cX14_is_28 (by decide +kernel) ?_
        exact G_zretA FieldType.boolean dr_cX14_is_32 rfl rfl (Nat.le_of_ble_eq_true rfl) (Nat.le_of_ble_eq_true rfl) ⟨1, rfl, rfl, (Nat.le_of_ble_eq_true rfl), (Nat.le_of_ble_eq_true rfl), (gB_w (gBl (show Int32.toInt 1 = 1 by decide)) (by decide) (by decide)), (Or.inr (by omega))⟩
abbrev ky_655708_Reader_want : gKey := (cX14_want, 2, "SpillForgeModel$Reader", none, [], "want", fun _ _ => True)
def pp_655708_Reader_want (D : va_G) (I : FieldType → ClassId) (P655683 : List Nat) (F655684 : Nat → va_E) (q655685 : Nat) (q655686 : Nat) (qs655687 : Nat) (qb655688 : Nat) (bs655689 : List Int32) (p655690 : Int32) (p655691 : Int32) (p655692 : Int32) (p655693 : Int32) (p655694 : Int32) (p655695 : Int32) (qo655696 : Nat) (p655697 : Int32) (p655698 : Int32) (p655699 : Int32) (qo655700 : Nat) (qo655701 : Nat) (p655702 : Int32) (f655703 : Nat → Int32) : Option Value → va_W → Nat → Nat → Prop := fun r w dc ds => ∃ (P655770 : List Nat) (F655771 : Nat → va_E) (o655765 : Int32) (o655766 : Int32) (o655767 : Int32) (o655768 : Int32) (q655769 : Nat), r = none ∧ w = va_pl P655770 F655771 ∧ rSub P655683 P655770 ∧ rFr [q655685] P655683 F655684 F655771 ∧ F655771 q655685 = .inr (19, [.ref q655686, .int p655690, .int o655765, .int o655766, .int o655767, .int o655768, .int p655692, .ref q655769, .int p655697, .int p655698, .int p655699, .ref qo655700, .ref qo655701, .int p655702]) ∧ F655771 q655686 = .inl (I .byte, 8192, .inl f655703) ∧ dc ≤ (16 * (o655765.toInt - p655691.toInt)).toNat ∧ ds ≤ (256 * (o655765.toInt - p655691.toInt)).toNat ∧ gB o655765 0 8192 ∧ gB o655766 0 6 ∧ gB o655767 0 8192 ∧ p655691.toInt ≤ o655765.toInt ∧ prP o655766 p655691 o655765 ∧ o655765.toInt ≤ p655690.toInt ∧ tP I P655770 F655771 o655766 q655769 qo655701 qo655700 ∧ vP o655766 o655768 ∧ nzK p655692
def xp_655708_Reader_want (D : va_G) (I : FieldType → ClassId) (P655683 : List Nat) (F655684 : Nat → va_E) (q655685 : Nat) (q655686 : Nat) (qs655687 : Nat) (qb655688 : Nat) (bs655689 : List Int32) (p655690 : Int32) (p655691 : Int32) (p655692 : Int32) (p655693 : Int32) (p655694 : Int32) (p655695 : Int32) (qo655696 : Nat) (p655697 : Int32) (p655698 : Int32) (p655699 : Int32) (qo655700 : Nat) (qo655701 : Nat) (p655702 : Int32) (f655703 : Nat → Int32) : String → Nat → va_W → Nat → Nat → Prop := fun E q w dc ds => ∃ (P655773 : List Nat) (F655772 : Nat → va_E), E = "SpillForgeModel$Wrong" ∧ w = va_pl P655773 F655772 ∧ rSub P655683 P655773 ∧ rFr [] P655683 F655684 F655772 ∧ q ∈ P655773 ∧ q ∉ P655683 ∧ wrF F655772 q ∧ dc ≤ (16 * (p655690.toInt - p655691.toInt)).toNat + 1 ∧ ds ≤ (256 * (p655690.toInt - p655691.toInt)).toNat + 7
set_option maxRecDepth 100000 in
set_option maxHeartbeats 4000000 in
theorem cp_655708_Reader_want (l : Launch) (hl0 : l.stackTraces = false) (D : va_G) (I : FieldType → ClassId) (P655683 : List Nat) (F655684 : Nat → va_E) (q655685 : Nat) (q655686 : Nat) (qs655687 : Nat) (qb655688 : Nat) (bs655689 : List Int32) (p655690 : Int32) (p655691 : Int32) (p655692 : Int32) (p655693 : Int32) (p655694 : Int32) (p655695 : Int32) (qo655696 : Nat) (p655697 : Int32) (p655698 : Int32) (p655699 : Int32) (qo655700 : Nat) (qo655701 : Nat) (p655702 : Int32) (f655703 : Nat → Int32) (hmq655685 : q655685 ∈ P655683) (hmq655686 : q655686 ∈ P655683) (heq655685 : F655684 q655685 = .inr (19, [.ref q655686, .int p655690, .int p655691, .int p655692, .int p655693, .int p655694, .int p655695, .ref qo655696, .int p655697, .int p655698, .int p655699, .ref qo655700, .ref qo655701, .int p655702])) (heq655686 : F655684 q655686 = .inl (I .byte, 8192, .inl f655703)) (hbs655689 : ∀ A s H, (gV D I).2.2.2.1 A s H → gSC qs655687 qb655688 bs655689 A s H) (nbs655689 : (bs655689.length : Int) ≤ 65535) (lbs655689 : gLB bs655689) (bp655690 : gB p655690 0 8192) (bp655691 : gB p655691 0 8192) (bp655692 : gB p655692 0 6) (bp655693 : gB p655693 0 8192) (bp655695 : gB p655695 0 6) (bp655697 : gB p655697 (-1) 8192) (bp655698 : gB p655698 0 4) (bp655699 : gB p655699 0 1000000) (bp655702 : gB p655702 0 1000000) (bf655703 : gF f655703 (-128) 127) (x655704 : p655691.toInt ≤ p655690.toInt) (x655705 : qo655701 ∈ P655683) (x655706 : qo655700 ∈ P655683) (x655707 : tP I P655683 F655684 p655692 qo655696 qo655701 qo655700) : CtA (gV D I) l yX14_want cX14_want 2 none 8 177 ((16 * (p655690.toInt - p655691.toInt)).toNat + 1) ((256 * (p655690.toInt - p655691.toInt)).toNat + 7) [.ref q655685, .ref qs655687] (va_pl P655683 F655684) (pp_655708_Reader_want D I P655683 F655684 q655685 q655686 qs655687 qb655688 bs655689 p655690 p655691 p655692 p655693 p655694 p655695 qo655696 p655697 p655698 p655699 qo655700 qo655701 p655702 f655703) (xp_655708_Reader_want D I P655683 F655684 q655685 q655686 qs655687 qb655688 bs655689 p655690 p655691 p655692 p655693 p655694 p655695 qo655696 p655697 p655698 p655699 qo655700 qo655701 p655702 f655703) := by
  refine CtA_of hl0 (by decide) (Nat.le_of_ble_eq_true rfl) ?_
  have bp655694 := gB_any p655694
  refine G_aload_n 0 dr_cX14_want_0 rfl ?_
  refine G_aload_n 1 dr_cX14_want_1 rfl ?_
  refine Gw_callV (As := [.ref qs655687]) (gV_ok D I) (cp_655627_Reader_is l hl0 D I P655683 F655684 q655685 q655686 qs655687 qb655688 bs655689 p655690 p655691 p655692 p655693 p655694 p655695 qo655696 p655697 p655698 p655699 qo655700 qo655701 p655702 f655703 hmq655685 hmq655686 heq655685 heq655686 hbs655689 nbs655689 lbs655689 bp655690 bp655691 bp655692 bp655693 bp655695 bp655697 bp655698 bp655699 bp655702 bf655703 x655707) dr_cX14_want_2 ⟨wr_9_141, wr_1_32, wr_9_144, by decide, rfl, (Nat.le_of_ble_eq_true rfl), (Nat.le_of_ble_eq_true rfl)⟩ wr_9_143 wr_p_84 hmq655685 heq655685 rfl (show 0 + 0 ≤ ((16 * (p655690.toInt - p655691.toInt)).toNat + 1) by first | omega | decide) (show 0 + 0 ≤ ((256 * (p655690.toInt - p655691.toInt)).toNat + 7) by first | omega | decide) (Nat.le_of_ble_eq_true rfl) (fun r655712 w655713 dc655709 ds655710 hp655711 => ?_) (fun _ _ _ _ _ z => z.elim)
  obtain ⟨o655714, rfl, rfl, hdc, hds, bo655714, x655715⟩ := hp655711
  change G _ _ _ _ _ _ _ (.int o655714 :: _) _ _ _
  refine G_widen (cs' := 0) (sl' := 0) (by omega) (by omega) ?_
  refine G_if_ne 13 dr_cX14_want_5 (by decide +kernel) (fun hc655716 => ?_) (fun hc655716 => ?_)
  · have r655717 : o655714.toInt ≠ 0 := gj_neq hc655716 (show Int32.toInt 0 = 0 by decide)
    have bo655714' : gB o655714 1 1 := ⟨by omega, by omega⟩
    refine G_aload_n 0 dr_cX14_want_13 rfl ?_
    refine Gw_callV (As := []) (gV_ok D I) (cp_653750_Reader_next l hl0 D I P655683 F655684 q655685 q655686 p655690 p655691 p655692 p655693 p655694 p655695 qo655696 p655697 p655698 p655699 qo655700 qo655701 p655702 f655703 hmq655685 hmq655686 heq655685 heq655686 bp655690 bp655691 bp655692 bp655693 bp655695 bp655697 bp655698 bp655699 bp655702 bf655703 (by omega) x655705 x655706) dr_cX14_want_14 ⟨wr_7_215, wr_1_32, wr_7_218, by decide, rfl, (Nat.le_of_ble_eq_true rfl), (Nat.le_of_ble_eq_true rfl)⟩ wr_7_217 wr_p_75 hmq655685 heq655685 rfl (show 0 + ((16 * (p655690.toInt - p655691.toInt)).toNat) ≤ ((16 * (p655690.toInt - p655691.toInt)).toNat + 1) by first | omega | decide) (show 0 + ((256 * (p655690.toInt - p655691.toInt)).toNat) ≤ ((256 * (p655690.toInt - p655691.toInt)).toNat + 7) by first | omega | decide) (Nat.le_of_ble_eq_true rfl) (fun r655721 w655722 dc655718 ds655719 hp655720 => ?_) (fun _ _ _ _ _ z => z.elim)
    obtain ⟨P655733, F655734, o655723, o655724, o655725, o655726, q655727, rfl, rfl, hsb655735, hfr655736, he655737, he655738, hdc, hds, bo655723, bo655724, bo655725, x655728, x655729, x655730, x655731, x655732⟩ := hp655720
    have hm655739 : q655685 ∈ P655733 := hsb655735 q655685 hmq655685
    have hm655740 : q655686 ∈ P655733 := hsb655735 q655686 hmq655686
    have hsb655741 : rSub P655683 P655733 := rSub_tr (rSub_rf (P := P655683)) hsb655735
    have hfr655742 : rFr [q655685] P655683 F655684 F655734 := rFr_call (rSub_rf (P := P655683)) (rFr_rf (W := []) (P := P655683) (F := F655684)) hfr655736 (fun b hb hn => ⟨nm_n, (nm_c (fun e => hn (e ▸ List.mem_cons_self)) nm_n)⟩)
    have bo655726 := gB_any o655726
    change G _ _ _ _ _ _ _ _ _ _ _
    refine G_widen (cs' := (16 * (o655723.toInt - p655691.toInt)).toNat) (sl' := (256 * (o655723.toInt - p655691.toInt)).toNat) (by omega) (by omega) ?_
    exact G_vretA dr_cX14_want_17 rfl (show (16 * (o655723.toInt - p655691.toInt)).toNat ≤ ((16 * (p655690.toInt - p655691.toInt)).toNat + 1) by omega) (show (256 * (o655723.toInt - p655691.toInt)).toNat ≤ ((256 * (p655690.toInt - p655691.toInt)).toNat + 7) by omega) ⟨P655733, F655734, o655723, o655724, o655725, o655726, q655727, rfl, rfl, hsb655741, hfr655742, he655737, he655738, (by omega), (by omega), bo655723, bo655724, bo655725, (by omega), x655729, (by omega), x655731, x655732, (isK_1 x655715 (by omega))⟩
  · have r655743 : o655714.toInt = 0 := gj_eq hc655716 (show Int32.toInt 0 = 0 by decide)
    have bo655714' : gB o655714 0 0 := ⟨by omega, by omega⟩
    refine G_aload_n 0 dr_cX14_want_8 rfl ?_
    refine Gw_callV (As := []) (gV_ok D I) (cp_655381_Reader_no l hl0 D I P655683 F655684 q655685 q655686 p655690 p655691 p655692 p655693 p655694 p655695 qo655696 p655697 p655698 p655699 qo655700 qo655701 p655702 f655703 hmq655685 hmq655686 heq655685 heq655686 bp655690 bp655691 bp655692 bp655693 bp655695 bp655697 bp655698 bp655699 bp655702 bf655703) dr_cX14_want_9 ⟨wr_9_97, wr_1_32, wr_9_100, by decide, rfl, (Nat.le_of_ble_eq_true rfl), (Nat.le_of_ble_eq_true rfl)⟩ wr_9_99 wr_p_81 hmq655685 heq655685 rfl (show 0 + 1 ≤ ((16 * (p655690.toInt - p655691.toInt)).toNat + 1) by first | omega | decide) (show 0 + 7 ≤ ((256 * (p655690.toInt - p655691.toInt)).toNat + 7) by first | omega | decide) (Nat.le_of_ble_eq_true rfl) (fun r655747 w655748 dc655744 ds655745 hp655746 => ?_) (fun _ _ _ _ _ z => z.elim)
    obtain ⟨P655750, F655751, q655749, rfl, rfl, hsb655752, hfr655753, he655754, he655755, he655756, hm655757, hq655758, hdc, hds⟩ := hp655746
    have hm655759 : q655685 ∈ P655750 := hsb655752 q655685 hmq655685
    have hm655760 : q655686 ∈ P655750 := hsb655752 q655686 hmq655686
    have hq655761 : q655749 ∉ P655683 := fun z => hq655758 ((rSub_rf (P := P655683)) q655749 z)
    have hsb655762 : rSub P655683 P655750 := rSub_tr (rSub_rf (P := P655683)) hsb655752
    have hfr655763 : rFr [] P655683 F655684 F655751 := rFr_call (rSub_rf (P := P655683)) (rFr_rf (W := []) (P := P655683) (F := F655684)) hfr655753 (fun b hb hn => ⟨nm_n, nm_n⟩)
    have tp655764 : tP I P655750 F655751 p655692 qo655696 qo655701 qo655700 := tP_new x655707 hsb655752 (fun b hb => hfr655753 b hb (fun z => by cases z)) (Or.inl rfl) (Or.inl rfl)
    change G _ _ _ _ _ _ _ (.ref q655749 :: _) _ _ _
    refine G_widen (cs' := 1) (sl' := 7) (by omega) (by omega) ?_
    exact Gp_athrow hm655757 he655756 rfl dr_cX14_want_12 (GT_outA rfl (show 1 ≤ ((16 * (p655690.toInt - p655691.toInt)).toNat + 1) by omega) (show 7 ≤ ((256 * (p655690.toInt - p655691.toInt)).toNat + 7) by omega) ⟨P655750, F655751, rfl, rfl, hsb655762, hfr655763, hm655757, hq655761, ⟨_, _, _, _, _, _, _, he655756, by omega⟩, (by omega), (by omega)⟩)
abbrev ky_655798_Reader_want : gKey := (cX14_want_, 3, "SpillForgeModel$Reader", (some FieldType.int), [], "want", fun _ _ => True)
def pp_655798_Reader_want (D : va_G) (I : FieldType → ClassId) (P655774 : List Nat) (F655775 : Nat → va_E) (q655776 : Nat) (q655777 : Nat) (p655778 : Int32) (p655779 : Int32) (p655780 : Int32) (p655781 : Int32) (p655782 : Int32) (p655783 : Int32) (p655784 : Int32) (qo655785 : Nat) (p655786 : Int32) (p655787 : Int32) (p655788 : Int32) (qo655789 : Nat) (qo655790 : Nat) (p655791 : Int32) (f655792 : Nat → Int32) : Option Value → va_W → Nat → Nat → Prop := fun r w dc ds => ∃ (P655853 : List Nat) (F655854 : Nat → va_E) (o655848 : Int32) (o655849 : Int32) (o655850 : Int32) (o655851 : Int32) (q655852 : Nat), r = some (.int p655783) ∧ w = va_pl P655853 F655854 ∧ rSub P655774 P655853 ∧ rFr [q655776] P655774 F655775 F655854 ∧ F655854 q655776 = .inr (19, [.ref q655777, .int p655779, .int o655848, .int o655849, .int o655850, .int o655851, .int p655781, .ref q655852, .int p655786, .int p655787, .int p655788, .ref qo655789, .ref qo655790, .int p655791]) ∧ F655854 q655777 = .inl (I .byte, 8192, .inl f655792) ∧ dc ≤ (16 * (o655848.toInt - p655780.toInt)).toNat ∧ ds ≤ (256 * (o655848.toInt - p655780.toInt)).toNat ∧ gB o655848 0 8192 ∧ gB o655849 0 6 ∧ gB o655850 0 8192 ∧ p655780.toInt ≤ o655848.toInt ∧ prP o655849 p655780 o655848 ∧ o655848.toInt ≤ p655779.toInt ∧ tP I P655853 F655854 o655849 q655852 qo655790 qo655789 ∧ vP o655849 o655851 ∧ vP p655778 p655783 ∧ p655781.toInt = p655778.toInt
def xp_655798_Reader_want (D : va_G) (I : FieldType → ClassId) (P655774 : List Nat) (F655775 : Nat → va_E) (q655776 : Nat) (q655777 : Nat) (p655778 : Int32) (p655779 : Int32) (p655780 : Int32) (p655781 : Int32) (p655782 : Int32) (p655783 : Int32) (p655784 : Int32) (qo655785 : Nat) (p655786 : Int32) (p655787 : Int32) (p655788 : Int32) (qo655789 : Nat) (qo655790 : Nat) (p655791 : Int32) (f655792 : Nat → Int32) : String → Nat → va_W → Nat → Nat → Prop := fun E q w dc ds => ∃ (P655856 : List Nat) (F655855 : Nat → va_E), E = "SpillForgeModel$Wrong" ∧ w = va_pl P655856 F655855 ∧ rSub P655774 P655856 ∧ rFr [] P655774 F655775 F655855 ∧ q ∈ P655856 ∧ q ∉ P655774 ∧ wrF F655855 q ∧ dc ≤ (16 * (p655779.toInt - p655780.toInt)).toNat + 1 ∧ ds ≤ (256 * (p655779.toInt - p655780.toInt)).toNat + 7
set_option maxRecDepth 100000 in
set_option maxHeartbeats 4000000 in
theorem cp_655798_Reader_want (l : Launch) (hl0 : l.stackTraces = false) (D : va_G) (I : FieldType → ClassId) (P655774 : List Nat) (F655775 : Nat → va_E) (q655776 : Nat) (q655777 : Nat) (p655778 : Int32) (p655779 : Int32) (p655780 : Int32) (p655781 : Int32) (p655782 : Int32) (p655783 : Int32) (p655784 : Int32) (qo655785 : Nat) (p655786 : Int32) (p655787 : Int32) (p655788 : Int32) (qo655789 : Nat) (qo655790 : Nat) (p655791 : Int32) (f655792 : Nat → Int32) (hmq655776 : q655776 ∈ P655774) (hmq655777 : q655777 ∈ P655774) (heq655776 : F655775 q655776 = .inr (19, [.ref q655777, .int p655779, .int p655780, .int p655781, .int p655782, .int p655783, .int p655784, .ref qo655785, .int p655786, .int p655787, .int p655788, .ref qo655789, .ref qo655790, .int p655791])) (heq655777 : F655775 q655777 = .inl (I .byte, 8192, .inl f655792)) (bp655778 : gB p655778 0 6) (bp655779 : gB p655779 0 8192) (bp655780 : gB p655780 0 8192) (bp655781 : gB p655781 0 6) (bp655782 : gB p655782 0 8192) (bp655784 : gB p655784 0 6) (bp655786 : gB p655786 (-1) 8192) (bp655787 : gB p655787 0 4) (bp655788 : gB p655788 0 1000000) (bp655791 : gB p655791 0 1000000) (bf655792 : gF f655792 (-128) 127) (x655793 : p655780.toInt ≤ p655779.toInt) (x655794 : qo655790 ∈ P655774) (x655795 : qo655789 ∈ P655774) (x655796 : tP I P655774 F655775 p655781 qo655785 qo655790 qo655789) (x655797 : vP p655781 p655783) : CtA (gV D I) l yX14_want_ cX14_want_ 3 (some FieldType.int) 8 177 ((16 * (p655779.toInt - p655780.toInt)).toNat + 1) ((256 * (p655779.toInt - p655780.toInt)).toNat + 7) [.ref q655776, .int p655778] (va_pl P655774 F655775) (pp_655798_Reader_want D I P655774 F655775 q655776 q655777 p655778 p655779 p655780 p655781 p655782 p655783 p655784 qo655785 p655786 p655787 p655788 qo655789 qo655790 p655791 f655792) (xp_655798_Reader_want D I P655774 F655775 q655776 q655777 p655778 p655779 p655780 p655781 p655782 p655783 p655784 qo655785 p655786 p655787 p655788 qo655789 qo655790 p655791 f655792) := by
  refine CtA_of hl0 (by decide) (Nat.le_of_ble_eq_true rfl) ?_
  have bp655783 := gB_any p655783
  refine G_aload_n 0 dr_cX14_want__0 rfl ?_
  refine Gp_get 3 hmq655776 heq655776 dr_cX14_want__1 (gk_X14 D I) (Nat.le_of_ble_eq_true rfl) wr_9_39 rfl ?_
  refine G_iload_n 1 dr_cX14_want__4 rfl ?_
  refine G_icmp_eq 13 dr_cX14_want__5 (by decide +kernel) (fun hc655799 => ?_) (fun hc655799 => ?_)
  · have r655800 : p655781.toInt = p655778.toInt := gC_eq hc655799
    refine G_aload_n 0 dr_cX14_want__13 rfl ?_
    refine Gp_get 5 hmq655776 heq655776 dr_cX14_want__14 (gk_X14 D I) (Nat.le_of_ble_eq_true rfl) wr_9_41 rfl ?_
    refine G_istore_n (L' := [(2, .int p655783), (0, .ref q655776), (1, .int p655778)]) dr_cX14_want__17 (Nat.le_of_ble_eq_true rfl) rfl ?_
    refine G_aload_n 1 dr_cX14_want__18 rfl ?_
    refine Gw_callV (As := []) (gV_ok D I) (cp_653750_Reader_next l hl0 D I P655774 F655775 q655776 q655777 p655779 p655780 p655781 p655782 p655783 p655784 qo655785 p655786 p655787 p655788 qo655789 qo655790 p655791 f655792 hmq655776 hmq655777 heq655776 heq655777 bp655779 bp655780 bp655781 bp655782 bp655784 bp655786 bp655787 bp655788 bp655791 bf655792 (by omega) x655794 x655795) dr_cX14_want__19 ⟨wr_7_215, wr_1_32, wr_7_218, by decide, rfl, (Nat.le_of_ble_eq_true rfl), (Nat.le_of_ble_eq_true rfl)⟩ wr_7_217 wr_p_75 hmq655776 heq655776 rfl (show 0 + ((16 * (p655779.toInt - p655780.toInt)).toNat) ≤ ((16 * (p655779.toInt - p655780.toInt)).toNat + 1) by first | omega | decide) (show 0 + ((256 * (p655779.toInt - p655780.toInt)).toNat) ≤ ((256 * (p655779.toInt - p655780.toInt)).toNat + 7) by first | omega | decide) (Nat.le_of_ble_eq_true rfl) (fun r655804 w655805 dc655801 ds655802 hp655803 => ?_) (fun _ _ _ _ _ z => z.elim)
    obtain ⟨P655816, F655817, o655806, o655807, o655808, o655809, q655810, rfl, rfl, hsb655818, hfr655819, he655820, he655821, hdc, hds, bo655806, bo655807, bo655808, x655811, x655812, x655813, x655814, x655815⟩ := hp655803
    have hm655822 : q655776 ∈ P655816 := hsb655818 q655776 hmq655776
    have hm655823 : q655777 ∈ P655816 := hsb655818 q655777 hmq655777
    have hsb655824 : rSub P655774 P655816 := rSub_tr (rSub_rf (P := P655774)) hsb655818
    have hfr655825 : rFr [q655776] P655774 F655775 F655817 := rFr_call (rSub_rf (P := P655774)) (rFr_rf (W := []) (P := P655774) (F := F655775)) hfr655819 (fun b hb hn => ⟨nm_n, (nm_c (fun e => hn (e ▸ List.mem_cons_self)) nm_n)⟩)
    have bo655809 := gB_any o655809
    change G _ _ _ _ _ _ _ _ _ _ _
    refine G_widen (cs' := (16 * (o655806.toInt - p655780.toInt)).toNat) (sl' := (256 * (o655806.toInt - p655780.toInt)).toNat) (by omega) (by omega) ?_
    refine G_iload_n 0 dr_cX14_want__22 rfl ?_
    exact G_iretA dr_cX14_want__23 rfl (show (16 * (o655806.toInt - p655780.toInt)).toNat ≤ ((16 * (p655779.toInt - p655780.toInt)).toNat + 1) by omega) (show (256 * (o655806.toInt - p655780.toInt)).toNat ≤ ((256 * (p655779.toInt - p655780.toInt)).toNat + 7) by omega) ⟨P655816, F655817, o655806, o655807, o655808, o655809, q655810, rfl, rfl, hsb655824, hfr655825, he655820, he655821, (by omega), (by omega), bo655806, bo655807, bo655808, (by omega), x655812, (by omega), x655814, x655815, (vP_eq x655797 (by omega)), (by omega)⟩
  · have r655826 : p655781.toInt ≠ p655778.toInt := gC_ne hc655799
    refine G_aload_n 0 dr_cX14_want__8 rfl ?_
    refine Gw_callV (As := []) (gV_ok D I) (cp_655381_Reader_no l hl0 D I P655774 F655775 q655776 q655777 p655779 p655780 p655781 p655782 p655783 p655784 qo655785 p655786 p655787 p655788 qo655789 qo655790 p655791 f655792 hmq655776 hmq655777 heq655776 heq655777 bp655779 bp655780 bp655781 bp655782 bp655784 bp655786 bp655787 bp655788 bp655791 bf655792) dr_cX14_want__9 ⟨wr_9_97, wr_1_32, wr_9_100, by decide, rfl, (Nat.le_of_ble_eq_true rfl), (Nat.le_of_ble_eq_true rfl)⟩ wr_9_99 wr_p_81 hmq655776 heq655776 rfl (show 0 + 1 ≤ ((16 * (p655779.toInt - p655780.toInt)).toNat + 1) by first | omega | decide) (show 0 + 7 ≤ ((256 * (p655779.toInt - p655780.toInt)).toNat + 7) by first | omega | decide) (Nat.le_of_ble_eq_true rfl) (fun r655830 w655831 dc655827 ds655828 hp655829 => ?_) (fun _ _ _ _ _ z => z.elim)
    obtain ⟨P655833, F655834, q655832, rfl, rfl, hsb655835, hfr655836, he655837, he655838, he655839, hm655840, hq655841, hdc, hds⟩ := hp655829
    have hm655842 : q655776 ∈ P655833 := hsb655835 q655776 hmq655776
    have hm655843 : q655777 ∈ P655833 := hsb655835 q655777 hmq655777
    have hq655844 : q655832 ∉ P655774 := fun z => hq655841 ((rSub_rf (P := P655774)) q655832 z)
    have hsb655845 : rSub P655774 P655833 := rSub_tr (rSub_rf (P := P655774)) hsb655835
    have hfr655846 : rFr [] P655774 F655775 F655834 := rFr_call (rSub_rf (P := P655774)) (rFr_rf (W := []) (P := P655774) (F := F655775)) hfr655836 (fun b hb hn => ⟨nm_n, nm_n⟩)
    have tp655847 : tP I P655833 F655834 p655781 qo655785 qo655790 qo655789 := tP_new x655796 hsb655835 (fun b hb => hfr655836 b hb (fun z => by cases z)) (Or.inl rfl) (Or.inl rfl)
    change G _ _ _ _ _ _ _ (.ref q655832 :: _) _ _ _
    refine G_widen (cs' := 1) (sl' := 7) (by omega) (by omega) ?_
    exact Gp_athrow hm655840 he655839 rfl dr_cX14_want__12 (GT_outA rfl (show 1 ≤ ((16 * (p655779.toInt - p655780.toInt)).toNat + 1) by omega) (show 7 ≤ ((256 * (p655779.toInt - p655780.toInt)).toNat + 7) by omega) ⟨P655833, F655834, rfl, rfl, hsb655845, hfr655846, hm655840, hq655844, ⟨_, _, _, _, _, _, _, he655839, by omega⟩, (by omega), (by omega)⟩)
