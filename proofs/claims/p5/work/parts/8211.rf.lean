theorem dr_cE_Throwable_init4_0 : decode cE_Throwable_init4 0 = .ok (.aload_n 0, 1) := by decide +kernel
theorem dr_cE_Throwable_init4_1 : decode cE_Throwable_init4 1 = .ok (.invokespecial 1, 3) := by decide +kernel
theorem wr_4_220 : (Jvm.Cond.methodLink "java/lang/Throwable" (1 : Nat) ({ cls := "java/lang/Object", name := "<init>", desc := "()V" } : Jvm.MethodName)) ∈ gw := gw_4 220 rfl rfl
theorem dr_cE_Throwable_init4_4 : decode cE_Throwable_init4 4 = .ok (.aload_n 0, 1) := by decide +kernel
theorem dr_cE_Throwable_init4_5 : decode cE_Throwable_init4 5 = .ok (.aload_n 0, 1) := by decide +kernel
theorem dr_cE_Throwable_init4_6 : decode cE_Throwable_init4 6 = .ok (.putfield 7, 3) := by decide +kernel
theorem wr_5_15 : (Jvm.Cond.fieldLink "java/lang/Throwable" (7 : Nat) "java/lang/Throwable" "cause" "Ljava/lang/Throwable;") ∈ gw := gw_5 15 rfl rfl
theorem dr_cE_Throwable_init4_9 : decode cE_Throwable_init4 9 = .ok (.aload_n 0, 1) := by decide +kernel
theorem dr_cE_Throwable_init4_10 : decode cE_Throwable_init4 10 = .ok (.getstatic 13, 3) := by decide +kernel
theorem wr_4_221 : (Jvm.Cond.fieldLink "java/lang/Throwable" (13 : Nat) "java/lang/Throwable" "UNASSIGNED_STACK" "[Ljava/lang/StackTraceElement;") ∈ gw := gw_4 221 rfl rfl
theorem dr_cE_Throwable_init4_13 : decode cE_Throwable_init4 13 = .ok (.putfield 17, 3) := by decide +kernel
theorem wr_5_16 : (Jvm.Cond.fieldLink "java/lang/Throwable" (17 : Nat) "java/lang/Throwable" "stackTrace" "[Ljava/lang/StackTraceElement;") ∈ gw := gw_5 16 rfl rfl
theorem dr_cE_Throwable_init4_16 : decode cE_Throwable_init4 16 = .ok (.aload_n 0, 1) := by decide +kernel
theorem dr_cE_Throwable_init4_17 : decode cE_Throwable_init4 17 = .ok (.getstatic 20, 3) := by decide +kernel
theorem wr_4_223 : (Jvm.Cond.fieldLink "java/lang/Throwable" (20 : Nat) "java/lang/Throwable" "SUPPRESSED_SENTINEL" "Ljava/util/List;") ∈ gw := gw_4 223 rfl rfl
theorem dr_cE_Throwable_init4_20 : decode cE_Throwable_init4 20 = .ok (.putfield 24, 3) := by decide +kernel
theorem wr_5_17 : (Jvm.Cond.fieldLink "java/lang/Throwable" (24 : Nat) "java/lang/Throwable" "suppressedExceptions" "Ljava/util/List;") ∈ gw := gw_5 17 rfl rfl
theorem dr_cE_Throwable_init4_23 : decode cE_Throwable_init4 23 = .ok (.iload 4, 2) := by decide +kernel
theorem dr_cE_Throwable_init4_25 : decode cE_Throwable_init4 25 = .ok (.ifCond .eq 11, 3) := by decide +kernel
theorem dr_cE_Throwable_init4_36 : decode cE_Throwable_init4 36 = .ok (.aload_n 0, 1) := by decide +kernel
theorem dr_cE_Throwable_init4_37 : decode cE_Throwable_init4 37 = .ok (.aconst_null, 1) := by decide +kernel
theorem dr_cE_Throwable_init4_38 : decode cE_Throwable_init4 38 = .ok (.putfield 17, 3) := by decide +kernel
theorem dr_cE_Throwable_init4_41 : decode cE_Throwable_init4 41 = .ok (.aload_n 0, 1) := by decide +kernel
theorem dr_cE_Throwable_init4_42 : decode cE_Throwable_init4 42 = .ok (.aload_n 1, 1) := by decide +kernel
theorem dr_cE_Throwable_init4_43 : decode cE_Throwable_init4 43 = .ok (.putfield 31, 3) := by decide +kernel
theorem wr_5_14 : (Jvm.Cond.fieldLink "java/lang/Throwable" (31 : Nat) "java/lang/Throwable" "detailMessage" "Ljava/lang/String;") ∈ gw := gw_5 14 rfl rfl
theorem dr_cE_Throwable_init4_46 : decode cE_Throwable_init4 46 = .ok (.aload_n 0, 1) := by decide +kernel
theorem dr_cE_Throwable_init4_47 : decode cE_Throwable_init4 47 = .ok (.aload_n 2, 1) := by decide +kernel
theorem dr_cE_Throwable_init4_48 : decode cE_Throwable_init4 48 = .ok (.putfield 7, 3) := by decide +kernel
theorem dr_cE_Throwable_init4_51 : decode cE_Throwable_init4 51 = .ok (.iload_n 3, 1) := by decide +kernel
theorem dr_cE_Throwable_init4_52 : decode cE_Throwable_init4 52 = .ok (.ifCond .ne 8, 3) := by decide +kernel
theorem dr_cE_Throwable_init4_55 : decode cE_Throwable_init4 55 = .ok (.aload_n 0, 1) := by decide +kernel
theorem dr_cE_Throwable_init4_56 : decode cE_Throwable_init4 56 = .ok (.aconst_null, 1) := by decide +kernel
theorem dr_cE_Throwable_init4_57 : decode cE_Throwable_init4 57 = .ok (.putfield 24, 3) := by decide +kernel
theorem dr_cE_Throwable_init4_60 : decode cE_Throwable_init4 60 = .ok (.return_, 1) := by decide +kernel
theorem dr_cE_Exception_init4_0 : decode cE_Exception_init4 0 = .ok (.aload_n 0, 1) := by decide +kernel
theorem dr_cE_Exception_init4_1 : decode cE_Exception_init4 1 = .ok (.aload_n 1, 1) := by decide +kernel
theorem dr_cE_Exception_init4_2 : decode cE_Exception_init4 2 = .ok (.aload_n 2, 1) := by decide +kernel
theorem dr_cE_Exception_init4_3 : decode cE_Exception_init4 3 = .ok (.iload_n 3, 1) := by decide +kernel
theorem dr_cE_Exception_init4_4 : decode cE_Exception_init4 4 = .ok (.iload 4, 2) := by decide +kernel
theorem dr_cE_Exception_init4_6 : decode cE_Exception_init4 6 = .ok (.invokespecial 16, 3) := by decide +kernel
theorem wr_9_115 : (Jvm.Cond.methodLink "java/lang/Exception" (16 : Nat) ({ cls := "java/lang/Throwable", name := "<init>", desc := "(Ljava/lang/String;Ljava/lang/Throwable;ZZ)V" } : Jvm.MethodName)) ∈ gw := gw_9 115 rfl rfl
theorem wr_1_23 : (Jvm.Cond.initialized "java/lang/Throwable") ∈ gw := gw_1 23 rfl rfl
theorem wr_9_117 : (Jvm.Cond.code ({ cls := "java/lang/Throwable", name := "<init>", desc := "(Ljava/lang/String;Ljava/lang/Throwable;ZZ)V" } : Jvm.MethodName) prog_40_method_5_code (5 : Nat) (Option.none : Option Jvm.ClassFile.FieldType)) ∈ gw := gw_9 117 rfl rfl
theorem wr_9_116 : (Jvm.Cond.instanceMethod ({ cls := "java/lang/Throwable", name := "<init>", desc := "(Ljava/lang/String;Ljava/lang/Throwable;ZZ)V" } : Jvm.MethodName)) ∈ gw := gw_9 116 rfl rfl
theorem dr_cE_Exception_init4_9 : decode cE_Exception_init4 9 = .ok (.return_, 1) := by decide +kernel
theorem dr_cE_RuntimeException_init4_0 : decode cE_RuntimeException_init4 0 = .ok (.aload_n 0, 1) := by decide +kernel
theorem dr_cE_RuntimeException_init4_1 : decode cE_RuntimeException_init4 1 = .ok (.aload_n 1, 1) := by decide +kernel
theorem dr_cE_RuntimeException_init4_2 : decode cE_RuntimeException_init4 2 = .ok (.aload_n 2, 1) := by decide +kernel
theorem dr_cE_RuntimeException_init4_3 : decode cE_RuntimeException_init4 3 = .ok (.iload_n 3, 1) := by decide +kernel
theorem dr_cE_RuntimeException_init4_4 : decode cE_RuntimeException_init4 4 = .ok (.iload 4, 2) := by decide +kernel
theorem dr_cE_RuntimeException_init4_6 : decode cE_RuntimeException_init4 6 = .ok (.invokespecial 16, 3) := by decide +kernel
theorem wr_9_112 : (Jvm.Cond.methodLink "java/lang/RuntimeException" (16 : Nat) ({ cls := "java/lang/Exception", name := "<init>", desc := "(Ljava/lang/String;Ljava/lang/Throwable;ZZ)V" } : Jvm.MethodName)) ∈ gw := gw_9 112 rfl rfl
theorem wr_1_24 : (Jvm.Cond.initialized "java/lang/Exception") ∈ gw := gw_1 24 rfl rfl
theorem wr_9_114 : (Jvm.Cond.code ({ cls := "java/lang/Exception", name := "<init>", desc := "(Ljava/lang/String;Ljava/lang/Throwable;ZZ)V" } : Jvm.MethodName) prog_25_method_5_code (5 : Nat) (Option.none : Option Jvm.ClassFile.FieldType)) ∈ gw := gw_9 114 rfl rfl
theorem wr_9_113 : (Jvm.Cond.instanceMethod ({ cls := "java/lang/Exception", name := "<init>", desc := "(Ljava/lang/String;Ljava/lang/Throwable;ZZ)V" } : Jvm.MethodName)) ∈ gw := gw_9 113 rfl rfl
theorem dr_cE_RuntimeException_init4_9 : decode cE_RuntimeException_init4 9 = .ok (.return_, 1) := by decide +kernel
theorem dr_cX16_init_0 : decode cX16_init 0 = .ok (.aload_n 0, 1) := by decide +kernel
theorem dr_cX16_init_1 : decode cX16_init 1 = .ok (.aconst_null, 1) := by decide +kernel
theorem dr_cX16_init_2 : decode cX16_init 2 = .ok (.aconst_null, 1) := by decide +kernel
theorem dr_cX16_init_3 : decode cX16_init 3 = .ok (.iconst 0, 1) := by decide +kernel
theorem dr_cX16_init_4 : decode cX16_init 4 = .ok (.iconst 0, 1) := by decide +kernel
theorem dr_cX16_init_5 : decode cX16_init 5 = .ok (.invokespecial 1, 3) := by decide +kernel
theorem wr_9_109 : (Jvm.Cond.methodLink "SpillForgeModel$Wrong" (1 : Nat) ({ cls := "java/lang/RuntimeException", name := "<init>", desc := "(Ljava/lang/String;Ljava/lang/Throwable;ZZ)V" } : Jvm.MethodName)) ∈ gw := gw_9 109 rfl rfl
theorem wr_1_25 : (Jvm.Cond.initialized "java/lang/RuntimeException") ∈ gw := gw_1 25 rfl rfl
theorem wr_9_111 : (Jvm.Cond.code ({ cls := "java/lang/RuntimeException", name := "<init>", desc := "(Ljava/lang/String;Ljava/lang/Throwable;ZZ)V" } : Jvm.MethodName) prog_33_method_5_code (5 : Nat) (Option.none : Option Jvm.ClassFile.FieldType)) ∈ gw := gw_9 111 rfl rfl
theorem wr_9_110 : (Jvm.Cond.instanceMethod ({ cls := "java/lang/RuntimeException", name := "<init>", desc := "(Ljava/lang/String;Ljava/lang/Throwable;ZZ)V" } : Jvm.MethodName)) ∈ gw := gw_9 110 rfl rfl
theorem dr_cX16_init_8 : decode cX16_init 8 = .ok (.aload_n 0, 1) := by decide +kernel
theorem dr_cX16_init_9 : decode cX16_init 9 = .ok (.iload_n 1, 1) := by decide +kernel
theorem dr_cX16_init_10 : decode cX16_init 10 = .ok (.putfield 7, 3) := by decide +kernel
theorem wr_9_118 : (Jvm.Cond.fieldLink "SpillForgeModel$Wrong" (7 : Nat) "SpillForgeModel$Wrong" "place" "I") ∈ gw := gw_9 118 rfl rfl
theorem dr_cX16_init_13 : decode cX16_init 13 = .ok (.return_, 1) := by decide +kernel
theorem dr_cX14_no_0 : decode cX14_no 0 = .ok (.new 124, 3) := by decide +kernel
theorem wr_9_97 : (Jvm.Cond.classLink "SpillForgeModel$Reader" (124 : Nat) "SpillForgeModel$Wrong") ∈ gw := gw_9 97 rfl rfl
theorem wr_9_98 : (Jvm.Cond.instantiable "SpillForgeModel$Wrong" (7 : Nat)) ∈ gw := gw_9 98 rfl rfl
theorem wr_1_37 : (Jvm.Cond.initialized "SpillForgeModel$Wrong") ∈ gw := gw_1 37 rfl rfl
theorem dr_cX14_no_3 : decode cX14_no 3 = .ok (.dup, 1) := by decide +kernel
theorem dr_cX14_no_4 : decode cX14_no 4 = .ok (.aload_n 0, 1) := by decide +kernel
theorem dr_cX14_no_5 : decode cX14_no 5 = .ok (.getfield 47, 3) := by decide +kernel
theorem dr_cX14_no_8 : decode cX14_no 8 = .ok (.invokespecial 126, 3) := by decide +kernel
theorem wr_9_106 : (Jvm.Cond.methodLink "SpillForgeModel$Reader" (126 : Nat) ({ cls := "SpillForgeModel$Wrong", name := "<init>", desc := "(I)V" } : Jvm.MethodName)) ∈ gw := gw_9 106 rfl rfl
theorem wr_9_108 : (Jvm.Cond.code ({ cls := "SpillForgeModel$Wrong", name := "<init>", desc := "(I)V" } : Jvm.MethodName) prog_19_method_1_code (2 : Nat) (Option.none : Option Jvm.ClassFile.FieldType)) ∈ gw := gw_9 108 rfl rfl
theorem wr_9_107 : (Jvm.Cond.instanceMethod ({ cls := "SpillForgeModel$Wrong", name := "<init>", desc := "(I)V" } : Jvm.MethodName)) ∈ gw := gw_9 107 rfl rfl
theorem dr_cX14_no_11 : decode cX14_no 11 = .ok (.areturn, 1) := by decide +kernel
theorem dr_cX14_is_0 : decode cX14_is 0 = .ok (.aload_n 0, 1) := by decide +kernel
theorem dr_cX14_is_1 : decode cX14_is 1 = .ok (.getfield 38, 3) := by decide +kernel
theorem dr_cX14_is_4 : decode cX14_is 4 = .ok (.iconst 5, 1) := by decide +kernel
theorem dr_cX14_is_5 : decode cX14_is 5 = .ok (.if_icmp .eq 11, 3) := by decide +kernel
theorem dr_cX14_is_16 : decode cX14_is 16 = .ok (.aload_n 0, 1) := by decide +kernel
theorem dr_cX14_is_17 : decode cX14_is 17 = .ok (.getfield 11, 3) := by decide +kernel
theorem dr_cX14_is_20 : decode cX14_is 20 = .ok (.aload_n 1, 1) := by decide +kernel
theorem dr_cX14_is_21 : decode cX14_is 21 = .ok (.invokevirtual 128, 3) := by decide +kernel
theorem wr_9_141 : (Jvm.Cond.methodLink "SpillForgeModel$Reader" (128 : Nat) ({ cls := "java/lang/String", name := "equals", desc := "(Ljava/lang/Object;)Z" } : Jvm.MethodName)) ∈ gw := gw_9 141 rfl rfl
theorem wr_9_144 : (Jvm.Cond.code ({ cls := "java/lang/String", name := "equals", desc := "(Ljava/lang/Object;)Z" } : Jvm.MethodName) prog_34_method_66_code (3 : Nat) (Option.some Jvm.ClassFile.FieldType.boolean)) ∈ gw := gw_9 144 rfl rfl
theorem wr_9_142 : (Jvm.Cond.instanceMethod ({ cls := "java/lang/String", name := "equals", desc := "(Ljava/lang/Object;)Z" } : Jvm.MethodName)) ∈ gw := gw_9 142 rfl rfl
theorem wr_9_143 : (Jvm.Cond.selects "java/lang/String" ({ cls := "java/lang/String", name := "equals", desc := "(Ljava/lang/Object;)Z" } : Jvm.MethodName) ({ cls := "java/lang/String", name := "equals", desc := "(Ljava/lang/Object;)Z" } : Jvm.MethodName)) ∈ gw := gw_9 143 rfl rfl
theorem dr_cX14_is_24 : decode cX14_is 24 = .ok (.ifCond .eq 7, 3) := by decide +kernel
theorem dr_cX14_is_31 : decode cX14_is 31 = .ok (.iconst 0, 1) := by decide +kernel
theorem dr_cX14_is_32 : decode cX14_is 32 = .ok (.ireturn, 1) := by decide +kernel
theorem dr_cX14_is_27 : decode cX14_is 27 = .ok (.iconst 1, 1) := by decide +kernel
theorem dr_cX14_is_28 : decode cX14_is 28 = .ok (.goto 4, 3) := by decide +kernel
theorem dr_cX14_is_8 : decode cX14_is 8 = .ok (.aload_n 0, 1) := by decide +kernel
theorem dr_cX14_is_9 : decode cX14_is 9 = .ok (.getfield 38, 3) := by decide +kernel
theorem dr_cX14_is_12 : decode cX14_is 12 = .ok (.iconst 1, 1) := by decide +kernel
theorem dr_cX14_is_13 : decode cX14_is 13 = .ok (.if_icmp .ne 18, 3) := by decide +kernel
theorem dr_cX14_want_0 : decode cX14_want 0 = .ok (.aload_n 0, 1) := by decide +kernel
theorem dr_cX14_want_1 : decode cX14_want 1 = .ok (.aload_n 1, 1) := by decide +kernel
theorem dr_cX14_want_2 : decode cX14_want 2 = .ok (.invokevirtual 132, 3) := by decide +kernel
theorem wr_9_137 : (Jvm.Cond.methodLink "SpillForgeModel$Reader" (132 : Nat) ({ cls := "SpillForgeModel$Reader", name := "is", desc := "(Ljava/lang/String;)Z" } : Jvm.MethodName)) ∈ gw := gw_9 137 rfl rfl
theorem wr_9_140 : (Jvm.Cond.code ({ cls := "SpillForgeModel$Reader", name := "is", desc := "(Ljava/lang/String;)Z" } : Jvm.MethodName) prog_17_method_9_code (2 : Nat) (Option.some Jvm.ClassFile.FieldType.boolean)) ∈ gw := gw_9 140 rfl rfl
theorem wr_9_139 : (Jvm.Cond.instanceMethod ({ cls := "SpillForgeModel$Reader", name := "is", desc := "(Ljava/lang/String;)Z" } : Jvm.MethodName)) ∈ gw := gw_9 139 rfl rfl
theorem wr_p_84 : Cond.selects "SpillForgeModel$Reader" ⟨"SpillForgeModel$Reader", "is", "(Ljava/lang/String;)Z"⟩ ⟨"SpillForgeModel$Reader", "is", "(Ljava/lang/String;)Z"⟩ ∈ gw := gw_p _ 84 rfl rfl rfl
theorem dr_cX14_want_5 : decode cX14_want 5 = .ok (.ifCond .ne 8, 3) := by decide +kernel
theorem dr_cX14_want_13 : decode cX14_want 13 = .ok (.aload_n 0, 1) := by decide +kernel
theorem dr_cX14_want_14 : decode cX14_want 14 = .ok (.invokevirtual 35, 3) := by decide +kernel
theorem wr_7_211 : (Jvm.Cond.methodLink "SpillForgeModel$Reader" (35 : Nat) ({ cls := "SpillForgeModel$Reader", name := "next", desc := "()V" } : Jvm.MethodName)) ∈ gw := gw_7 211 rfl rfl
theorem wr_7_214 : (Jvm.Cond.code ({ cls := "SpillForgeModel$Reader", name := "next", desc := "()V" } : Jvm.MethodName) prog_17_method_4_code (3 : Nat) (Option.none : Option Jvm.ClassFile.FieldType)) ∈ gw := gw_7 214 rfl rfl
theorem wr_7_213 : (Jvm.Cond.instanceMethod ({ cls := "SpillForgeModel$Reader", name := "next", desc := "()V" } : Jvm.MethodName)) ∈ gw := gw_7 213 rfl rfl
theorem wr_p_75 : Cond.selects "SpillForgeModel$Reader" ⟨"SpillForgeModel$Reader", "next", "()V"⟩ ⟨"SpillForgeModel$Reader", "next", "()V"⟩ ∈ gw := gw_p _ 75 rfl rfl rfl
theorem dr_cX14_want_17 : decode cX14_want 17 = .ok (.return_, 1) := by decide +kernel
theorem dr_cX14_want_8 : decode cX14_want 8 = .ok (.aload_n 0, 1) := by decide +kernel
theorem dr_cX14_want_9 : decode cX14_want 9 = .ok (.invokevirtual 136, 3) := by decide +kernel
theorem wr_9_93 : (Jvm.Cond.methodLink "SpillForgeModel$Reader" (136 : Nat) ({ cls := "SpillForgeModel$Reader", name := "no", desc := "()LSpillForgeModel$Wrong;" } : Jvm.MethodName)) ∈ gw := gw_9 93 rfl rfl
theorem wr_9_96 : (Jvm.Cond.code ({ cls := "SpillForgeModel$Reader", name := "no", desc := "()LSpillForgeModel$Wrong;" } : Jvm.MethodName) prog_17_method_8_code (1 : Nat) (Option.some (Jvm.ClassFile.FieldType.object "SpillForgeModel$Wrong"))) ∈ gw := gw_9 96 rfl rfl
theorem wr_9_95 : (Jvm.Cond.instanceMethod ({ cls := "SpillForgeModel$Reader", name := "no", desc := "()LSpillForgeModel$Wrong;" } : Jvm.MethodName)) ∈ gw := gw_9 95 rfl rfl
theorem wr_p_81 : Cond.selects "SpillForgeModel$Reader" ⟨"SpillForgeModel$Reader", "no", "()LSpillForgeModel$Wrong;"⟩ ⟨"SpillForgeModel$Reader", "no", "()LSpillForgeModel$Wrong;"⟩ ∈ gw := gw_p _ 81 rfl rfl rfl
theorem dr_cX14_want_12 : decode cX14_want 12 = .ok (.athrow, 1) := by decide +kernel
theorem dr_cX14_want__0 : decode cX14_want_ 0 = .ok (.aload_n 0, 1) := by decide +kernel
theorem dr_cX14_want__1 : decode cX14_want_ 1 = .ok (.getfield 38, 3) := by decide +kernel
theorem dr_cX14_want__4 : decode cX14_want_ 4 = .ok (.iload_n 1, 1) := by decide +kernel
theorem dr_cX14_want__5 : decode cX14_want_ 5 = .ok (.if_icmp .eq 8, 3) := by decide +kernel
theorem dr_cX14_want__13 : decode cX14_want_ 13 = .ok (.aload_n 0, 1) := by decide +kernel
theorem dr_cX14_want__14 : decode cX14_want_ 14 = .ok (.getfield 80, 3) := by decide +kernel
theorem dr_cX14_want__17 : decode cX14_want_ 17 = .ok (.istore_n 2, 1) := by decide +kernel
theorem dr_cX14_want__18 : decode cX14_want_ 18 = .ok (.aload_n 0, 1) := by decide +kernel
theorem dr_cX14_want__19 : decode cX14_want_ 19 = .ok (.invokevirtual 35, 3) := by decide +kernel
theorem dr_cX14_want__22 : decode cX14_want_ 22 = .ok (.iload_n 2, 1) := by decide +kernel
theorem dr_cX14_want__23 : decode cX14_want_ 23 = .ok (.ireturn, 1) := by decide +kernel
theorem dr_cX14_want__8 : decode cX14_want_ 8 = .ok (.aload_n 0, 1) := by decide +kernel
theorem dr_cX14_want__9 : decode cX14_want_ 9 = .ok (.invokevirtual 136, 3) := by decide +kernel
theorem dr_cX14_want__12 : decode cX14_want_ 12 = .ok (.athrow, 1) := by decide +kernel
abbrev ky_655328_Throwable_init : gKey := (cE_Throwable_init4, 5, "java/lang/Throwable", none, [], "<init>", fun _ _ => True)
def pp_655328_Throwable_init (D : va_G) (I : FieldType → ClassId) (P655323 : List Nat) (F655324 : Nat → va_E) (q655325 : Nat) (p655326 : Int32) (p655327 : Int32) : Option Value → va_W → Nat → Nat → Prop := fun r w dc ds => ∃ (F655454 : Nat → va_E), r = none ∧ w = va_pl P655323 F655454 ∧ rFr [q655325] P655323 F655324 F655454 ∧ F655454 q655325 = .inr (21, [.null, .null, .null, .null, .null, .int p655326, .int p655327]) ∧ dc ≤ 0 ∧ ds ≤ 0
set_option maxRecDepth 100000 in
set_option maxHeartbeats 4000000 in
theorem cp_655328_Throwable_init (l : Launch) (hl0 : l.stackTraces = false) (D : va_G) (I : FieldType → ClassId) (P655323 : List Nat) (F655324 : Nat → va_E) (q655325 : Nat) (p655326 : Int32) (p655327 : Int32) (hmq655325 : q655325 ∈ P655323) (heq655325 : F655324 q655325 = .inr (21, [.null, .null, .null, .null, .null, .int p655326, .int p655327])) (bp655327 : gB p655327 0 8192) : CtA (gV D I) l yE_Throwable_init4 cE_Throwable_init4 5 none 1 12 0 0 [.ref q655325, .null, .null, .int 0, .int 0] (va_pl P655323 F655324) (pp_655328_Throwable_init D I P655323 F655324 q655325 p655326 p655327) gNA := by
  refine CtA_ofF hl0 (by decide +kernel) (Nat.le_of_ble_eq_true rfl) ?_
  have bp655326 := gB_any p655326
  refine G_aload_n 0 dr_cE_Throwable_init4_0 rfl ?_
  refine G_obj dr_cE_Throwable_init4_1 wr_4_220 wr_1_51 wr_1_52 (Nat.le_of_ble_eq_true rfl) (Nat.le_of_ble_eq_true rfl) ?_
  refine G_aload_n 0 dr_cE_Throwable_init4_4 rfl ?_
  refine G_aload_n 0 dr_cE_Throwable_init4_5 rfl ?_
  refine Gp_put 0 hmq655325 heq655325 dr_cE_Throwable_init4_6 (gk_X16 D I) (Nat.le_of_ble_eq_true rfl) wr_5_15 rfl rfl rfl (Nat.le_of_ble_eq_true rfl) (fun F655329 e655330 n655331 => ?_)
  have he655332 : F655329 q655325 = .inr (21, [.ref q655325, .null, .null, .null, .null, .int p655326, .int p655327]) := e655330
  have hfr655333 : rFr [q655325] P655323 F655324 F655329 := rFr_put (rFr_rf (W := []) (P := P655323) (F := F655324)) n655331
  refine G_aload_n 0 dr_cE_Throwable_init4_9 rfl ?_
  refine G_gets dr_cE_Throwable_init4_10 wr_4_221 gz_us (fun x655336 hx655335 => ?_)
  rcases hx655335 with rfl | ⟨t655334, rfl⟩
  · refine Gp_put 1 hmq655325 he655332 dr_cE_Throwable_init4_13 (gk_X16 D I) (Nat.le_of_ble_eq_true rfl) wr_5_16 rfl rfl rfl (Nat.le_of_ble_eq_true rfl) (fun F655337 e655338 n655339 => ?_)
    have he655340 : F655337 q655325 = .inr (21, [.ref q655325, .null, .null, .null, .null, .int p655326, .int p655327]) := e655338
    have hfr655341 : rFr [q655325] P655323 F655324 F655337 := rFr_put' List.mem_cons_self hfr655333 n655339
    refine G_aload_n 0 dr_cE_Throwable_init4_16 rfl ?_
    refine G_gets dr_cE_Throwable_init4_17 wr_4_223 gz_ss (fun x655344 hx655343 => ?_)
    rcases hx655343 with rfl | ⟨t655342, rfl⟩
    · refine Gp_put 2 hmq655325 he655340 dr_cE_Throwable_init4_20 (gk_X16 D I) (Nat.le_of_ble_eq_true rfl) wr_5_17 rfl rfl rfl (Nat.le_of_ble_eq_true rfl) (fun F655345 e655346 n655347 => ?_)
      have he655348 : F655345 q655325 = .inr (21, [.ref q655325, .null, .null, .null, .null, .int p655326, .int p655327]) := e655346
      have hfr655349 : rFr [q655325] P655323 F655324 F655345 := rFr_put' List.mem_cons_self hfr655341 n655347
      refine G_iload 4 dr_cE_Throwable_init4_23 rfl ?_
      refine G_if_eq 36 dr_cE_Throwable_init4_25 (by decide +kernel) (fun _ => ?_) (fun hc => absurd hc (by decide))
      refine G_aload_n 0 dr_cE_Throwable_init4_36 rfl ?_
      refine G_null dr_cE_Throwable_init4_37 ?_
      refine Gp_put 1 hmq655325 he655348 dr_cE_Throwable_init4_38 (gk_X16 D I) (Nat.le_of_ble_eq_true rfl) wr_5_16 rfl rfl rfl (Nat.le_of_ble_eq_true rfl) (fun F655350 e655351 n655352 => ?_)
      have he655353 : F655350 q655325 = .inr (21, [.ref q655325, .null, .null, .null, .null, .int p655326, .int p655327]) := e655351
      have hfr655354 : rFr [q655325] P655323 F655324 F655350 := rFr_put' List.mem_cons_self hfr655349 n655352
      refine G_aload_n 0 dr_cE_Throwable_init4_41 rfl ?_
      refine G_aload_nN 1 dr_cE_Throwable_init4_42 rfl ?_
      refine Gp_put 3 hmq655325 he655353 dr_cE_Throwable_init4_43 (gk_X16 D I) (Nat.le_of_ble_eq_true rfl) wr_5_14 rfl rfl rfl (Nat.le_of_ble_eq_true rfl) (fun F655355 e655356 n655357 => ?_)
      have he655358 : F655355 q655325 = .inr (21, [.ref q655325, .null, .null, .null, .null, .int p655326, .int p655327]) := e655356
      have hfr655359 : rFr [q655325] P655323 F655324 F655355 := rFr_put' List.mem_cons_self hfr655354 n655357
      refine G_aload_n 0 dr_cE_Throwable_init4_46 rfl ?_
      refine G_aload_nN 2 dr_cE_Throwable_init4_47 rfl ?_
      refine Gp_put 0 hmq655325 he655358 dr_cE_Throwable_init4_48 (gk_X16 D I) (Nat.le_of_ble_eq_true rfl) wr_5_15 rfl rfl rfl (Nat.le_of_ble_eq_true rfl) (fun F655360 e655361 n655362 => ?_)
      have he655363 : F655360 q655325 = .inr (21, [.null, .null, .null, .null, .null, .int p655326, .int p655327]) := e655361
      have hfr655364 : rFr [q655325] P655323 F655324 F655360 := rFr_put' List.mem_cons_self hfr655359 n655362
      refine G_iload_n 3 dr_cE_Throwable_init4_51 rfl ?_
      refine G_if_ne 60 dr_cE_Throwable_init4_52 (by decide +kernel) (fun hc => absurd hc (by decide)) (fun _ => ?_)
      refine G_aload_n 0 dr_cE_Throwable_init4_55 rfl ?_
      refine G_null dr_cE_Throwable_init4_56 ?_
      refine Gp_put 2 hmq655325 he655363 dr_cE_Throwable_init4_57 (gk_X16 D I) (Nat.le_of_ble_eq_true rfl) wr_5_17 rfl rfl rfl (Nat.le_of_ble_eq_true rfl) (fun F655365 e655366 n655367 => ?_)
      have he655368 : F655365 q655325 = .inr (21, [.null, .null, .null, .null, .null, .int p655326, .int p655327]) := e655366
      have hfr655369 : rFr [q655325] P655323 F655324 F655365 := rFr_put' List.mem_cons_self hfr655364 n655367
      exact G_vretA dr_cE_Throwable_init4_60 rfl (Nat.le_of_ble_eq_true rfl) (Nat.le_of_ble_eq_true rfl) ⟨F655365, rfl, rfl, hfr655369, he655368, (Nat.le_of_ble_eq_true rfl), (Nat.le_of_ble_eq_true rfl)⟩
    · refine Gp_put 2 hmq655325 he655340 dr_cE_Throwable_init4_20 (gk_X16 D I) (Nat.le_of_ble_eq_true rfl) wr_5_17 rfl rfl rfl (Nat.le_of_ble_eq_true rfl) (fun F655370 e655371 n655372 => ?_)
      have he655373 : F655370 q655325 = .inr (21, [.ref q655325, .null, .ref t655342, .null, .null, .int p655326, .int p655327]) := e655371
      have hfr655374 : rFr [q655325] P655323 F655324 F655370 := rFr_put' List.mem_cons_self hfr655341 n655372
      refine G_iload 4 dr_cE_Throwable_init4_23 rfl ?_
      refine G_if_eq 36 dr_cE_Throwable_init4_25 (by decide +kernel) (fun _ => ?_) (fun hc => absurd hc (by decide))
      refine G_aload_n 0 dr_cE_Throwable_init4_36 rfl ?_
      refine G_null dr_cE_Throwable_init4_37 ?_
      refine Gp_put 1 hmq655325 he655373 dr_cE_Throwable_init4_38 (gk_X16 D I) (Nat.le_of_ble_eq_true rfl) wr_5_16 rfl rfl rfl (Nat.le_of_ble_eq_true rfl) (fun F655375 e655376 n655377 => ?_)
      have he655378 : F655375 q655325 = .inr (21, [.ref q655325, .null, .ref t655342, .null, .null, .int p655326, .int p655327]) := e655376
      have hfr655379 : rFr [q655325] P655323 F655324 F655375 := rFr_put' List.mem_cons_self hfr655374 n655377
      refine G_aload_n 0 dr_cE_Throwable_init4_41 rfl ?_
      refine G_aload_nN 1 dr_cE_Throwable_init4_42 rfl ?_
      refine Gp_put 3 hmq655325 he655378 dr_cE_Throwable_init4_43 (gk_X16 D I) (Nat.le_of_ble_eq_true rfl) wr_5_14 rfl rfl rfl (Nat.le_of_ble_eq_true rfl) (fun F655380 e655381 n655382 => ?_)
      have he655383 : F655380 q655325 = .inr (21, [.ref q655325, .null, .ref t655342, .null, .null, .int p655326, .int p655327]) := e655381
      have hfr655384 : rFr [q655325] P655323 F655324 F655380 := rFr_put' List.mem_cons_self hfr655379 n655382
      refine G_aload_n 0 dr_cE_Throwable_init4_46 rfl ?_
      refine G_aload_nN 2 dr_cE_Throwable_init4_47 rfl ?_
      refine Gp_put 0 hmq655325 he655383 dr_cE_Throwable_init4_48 (gk_X16 D I) (Nat.le_of_ble_eq_true rfl) wr_5_15 rfl rfl rfl (Nat.le_of_ble_eq_true rfl) (fun F655385 e655386 n655387 => ?_)
      have he655388 : F655385 q655325 = .inr (21, [.null, .null, .ref t655342, .null, .null, .int p655326, .int p655327]) := e655386
      have hfr655389 : rFr [q655325] P655323 F655324 F655385 := rFr_put' List.mem_cons_self hfr655384 n655387
      refine G_iload_n 3 dr_cE_Throwable_init4_51 rfl ?_
      refine G_if_ne 60 dr_cE_Throwable_init4_52 (by decide +kernel) (fun hc => absurd hc (by decide)) (fun _ => ?_)
      refine G_aload_n 0 dr_cE_Throwable_init4_55 rfl ?_
      refine G_null dr_cE_Throwable_init4_56 ?_
      refine Gp_put 2 hmq655325 he655388 dr_cE_Throwable_init4_57 (gk_X16 D I) (Nat.le_of_ble_eq_true rfl) wr_5_17 rfl rfl rfl (Nat.le_of_ble_eq_true rfl) (fun F655390 e655391 n655392 => ?_)
      have he655393 : F655390 q655325 = .inr (21, [.null, .null, .null, .null, .null, .int p655326, .int p655327]) := e655391
      have hfr655394 : rFr [q655325] P655323 F655324 F655390 := rFr_put' List.mem_cons_self hfr655389 n655392
      exact G_vretA dr_cE_Throwable_init4_60 rfl (Nat.le_of_ble_eq_true rfl) (Nat.le_of_ble_eq_true rfl) ⟨F655390, rfl, rfl, hfr655394, he655393, (Nat.le_of_ble_eq_true rfl), (Nat.le_of_ble_eq_true rfl)⟩
  · refine Gp_put 1 hmq655325 he655332 dr_cE_Throwable_init4_13 (gk_X16 D I) (Nat.le_of_ble_eq_true rfl) wr_5_16 rfl rfl rfl (Nat.le_of_ble_eq_true rfl) (fun F655395 e655396 n655397 => ?_)
    have he655398 : F655395 q655325 = .inr (21, [.ref q655325, .ref t655334, .null, .null, .null, .int p655326, .int p655327]) := e655396
    have hfr655399 : rFr [q655325] P655323 F655324 F655395 := rFr_put' List.mem_cons_self hfr655333 n655397
    refine G_aload_n 0 dr_cE_Throwable_init4_16 rfl ?_
    refine G_gets dr_cE_Throwable_init4_17 wr_4_223 gz_ss (fun x655402 hx655401 => ?_)
    rcases hx655401 with rfl | ⟨t655400, rfl⟩
    · refine Gp_put 2 hmq655325 he655398 dr_cE_Throwable_init4_20 (gk_X16 D I) (Nat.le_of_ble_eq_true rfl) wr_5_17 rfl rfl rfl (Nat.le_of_ble_eq_true rfl) (fun F655403 e655404 n655405 => ?_)
      have he655406 : F655403 q655325 = .inr (21, [.ref q655325, .ref t655334, .null, .null, .null, .int p655326, .int p655327]) := e655404
      have hfr655407 : rFr [q655325] P655323 F655324 F655403 := rFr_put' List.mem_cons_self hfr655399 n655405
      refine G_iload 4 dr_cE_Throwable_init4_23 rfl ?_
      refine G_if_eq 36 dr_cE_Throwable_init4_25 (by decide +kernel) (fun _ => ?_) (fun hc => absurd hc (by decide))
      refine G_aload_n 0 dr_cE_Throwable_init4_36 rfl ?_
      refine G_null dr_cE_Throwable_init4_37 ?_
      refine Gp_put 1 hmq655325 he655406 dr_cE_Throwable_init4_38 (gk_X16 D I) (Nat.le_of_ble_eq_true rfl) wr_5_16 rfl rfl rfl (Nat.le_of_ble_eq_true rfl) (fun F655408 e655409 n655410 => ?_)
      have he655411 : F655408 q655325 = .inr (21, [.ref q655325, .null, .null, .null, .null, .int p655326, .int p655327]) := e655409
      have hfr655412 : rFr [q655325] P655323 F655324 F655408 := rFr_put' List.mem_cons_self hfr655407 n655410
      refine G_aload_n 0 dr_cE_Throwable_init4_41 rfl ?_
      refine G_aload_nN 1 dr_cE_Throwable_init4_42 rfl ?_
      refine Gp_put 3 hmq655325 he655411 dr_cE_Throwable_init4_43 (gk_X16 D I) (Nat.le_of_ble_eq_true rfl) wr_5_14 rfl rfl rfl (Nat.le_of_ble_eq_true rfl) (fun F655413 e655414 n655415 => ?_)
      have he655416 : F655413 q655325 = .inr (21, [.ref q655325, .null, .null, .null, .null, .int p655326, .int p655327]) := e655414
      have hfr655417 : rFr [q655325] P655323 F655324 F655413 := rFr_put' List.mem_cons_self hfr655412 n655415
      refine G_aload_n 0 dr_cE_Throwable_init4_46 rfl ?_
      refine G_aload_nN 2 dr_cE_Throwable_init4_47 rfl ?_
      refine Gp_put 0 hmq655325 he655416 dr_cE_Throwable_init4_48 (gk_X16 D I) (Nat.le_of_ble_eq_true rfl) wr_5_15 rfl rfl rfl (Nat.le_of_ble_eq_true rfl) (fun F655418 e655419 n655420 => ?_)
      have he655421 : F655418 q655325 = .inr (21, [.null, .null, .null, .null, .null, .int p655326, .int p655327]) := e655419
      have hfr655422 : rFr [q655325] P655323 F655324 F655418 := rFr_put' List.mem_cons_self hfr655417 n655420
      refine G_iload_n 3 dr_cE_Throwable_init4_51 rfl ?_
      refine G_if_ne 60 dr_cE_Throwable_init4_52 (by decide +kernel) (fun hc => absurd hc (by decide)) (fun _ => ?_)
      refine G_aload_n 0 dr_cE_Throwable_init4_55 rfl ?_
      refine G_null dr_cE_Throwable_init4_56 ?_
      refine Gp_put 2 hmq655325 he655421 dr_cE_Throwable_init4_57 (gk_X16 D I) (Nat.le_of_ble_eq_true rfl) wr_5_17 rfl rfl rfl (Nat.le_of_ble_eq_true rfl) (fun F655423 e655424 n655425 => ?_)
      have he655426 : F655423 q655325 = .inr (21, [.null, .null, .null, .null, .null, .int p655326, .int p655327]) := e655424
      have hfr655427 : rFr [q655325] P655323 F655324 F655423 := rFr_put' List.mem_cons_self hfr655422 n655425
      exact G_vretA dr_cE_Throwable_init4_60 rfl (Nat.le_of_ble_eq_true rfl) (Nat.le_of_ble_eq_true rfl) ⟨F655423, rfl, rfl, hfr655427, he655426, (Nat.le_of_ble_eq_true rfl), (Nat.le_of_ble_eq_true rfl)⟩
    · refine Gp_put 2 hmq655325 he655398 dr_cE_Throwable_init4_20 (gk_X16 D I) (Nat.le_of_ble_eq_true rfl) wr_5_17 rfl rfl rfl (Nat.le_of_ble_eq_true rfl) (fun F655428 e655429 n655430 => ?_)
      have he655431 : F655428 q655325 = .inr (21, [.ref q655325, .ref t655334, .ref t655400, .null, .null, .int p655326, .int p655327]) := e655429
      have hfr655432 : rFr [q655325] P655323 F655324 F655428 := rFr_put' List.mem_cons_self hfr655399 n655430
      refine G_iload 4 dr_cE_Throwable_init4_23 rfl ?_
      refine G_if_eq 36 dr_cE_Throwable_init4_25 (by decide +kernel) (fun _ => ?_) (fun hc => absurd hc (by decide))
      refine G_aload_n 0 dr_cE_Throwable_init4_36 rfl ?_
      refine G_null dr_cE_Throwable_init4_37 ?_
      refine Gp_put 1 hmq655325 he655431 dr_cE_Throwable_init4_38 (gk_X16 D I) (Nat.le_of_ble_eq_true rfl) wr_5_16 rfl rfl rfl (Nat.le_of_ble_eq_true rfl) (fun F655433 e655434 n655435 => ?_)
      have he655436 : F655433 q655325 = .inr (21, [.ref q655325, .null, .ref t655400, .null, .null, .int p655326, .int p655327]) := e655434
      have hfr655437 : rFr [q655325] P655323 F655324 F655433 := rFr_put' List.mem_cons_self hfr655432 n655435
      refine G_aload_n 0 dr_cE_Throwable_init4_41 rfl ?_
      refine G_aload_nN 1 dr_cE_Throwable_init4_42 rfl ?_
      refine Gp_put 3 hmq655325 he655436 dr_cE_Throwable_init4_43 (gk_X16 D I) (Nat.le_of_ble_eq_true rfl) wr_5_14 rfl rfl rfl (Nat.le_of_ble_eq_true rfl) (fun F655438 e655439 n655440 => ?_)
      have he655441 : F655438 q655325 = .inr (21, [.ref q655325, .null, .ref t655400, .null, .null, .int p655326, .int p655327]) := e655439
      have hfr655442 : rFr [q655325] P655323 F655324 F655438 := rFr_put' List.mem_cons_self hfr655437 n655440
      refine G_aload_n 0 dr_cE_Throwable_init4_46 rfl ?_
      refine G_aload_nN 2 dr_cE_Throwable_init4_47 rfl ?_
      refine Gp_put 0 hmq655325 he655441 dr_cE_Throwable_init4_48 (gk_X16 D I) (Nat.le_of_ble_eq_true rfl) wr_5_15 rfl rfl rfl (Nat.le_of_ble_eq_true rfl) (fun F655443 e655444 n655445 => ?_)
      have he655446 : F655443 q655325 = .inr (21, [.null, .null, .ref t655400, .null, .null, .int p655326, .int p655327]) := e655444
      have hfr655447 : rFr [q655325] P655323 F655324 F655443 := rFr_put' List.mem_cons_self hfr655442 n655445
      refine G_iload_n 3 dr_cE_Throwable_init4_51 rfl ?_
      refine G_if_ne 60 dr_cE_Throwable_init4_52 (by decide +kernel) (fun hc => absurd hc (by decide)) (fun _ => ?_)
      refine G_aload_n 0 dr_cE_Throwable_init4_55 rfl ?_
      refine G_null dr_cE_Throwable_init4_56 ?_
      refine Gp_put 2 hmq655325 he655446 dr_cE_Throwable_init4_57 (gk_X16 D I) (Nat.le_of_ble_eq_true rfl) wr_5_17 rfl rfl rfl (Nat.le_of_ble_eq_true rfl) (fun F655448 e655449 n655450 => ?_)
      have he655451 : F655448 q655325 = .inr (21, [.null, .null, .null, .null, .null, .int p655326, .int p655327]) := e655449
      have hfr655452 : rFr [q655325] P655323 F655324 F655448 := rFr_put' List.mem_cons_self hfr655447 n655450
      exact G_vretA dr_cE_Throwable_init4_60 rfl (Nat.le_of_ble_eq_true rfl) (Nat.le_of_ble_eq_true rfl) ⟨F655448, rfl, rfl, hfr655452, he655451, (Nat.le_of_ble_eq_true rfl), (Nat.le_of_ble_eq_true rfl)⟩
abbrev ky_655322_Exception_init : gKey := (cE_Exception_init4, 5, "java/lang/Exception", none, [], "<init>", fun _ _ => True)
def pp_655322_Exception_init (D : va_G) (I : FieldType → ClassId) (P655317 : List Nat) (F655318 : Nat → va_E) (q655319 : Nat) (p655320 : Int32) (p655321 : Int32) : Option Value → va_W → Nat → Nat → Prop := fun r w dc ds => ∃ (F655466 : Nat → va_E), r = none ∧ w = va_pl P655317 F655466 ∧ rFr [q655319] P655317 F655318 F655466 ∧ F655466 q655319 = .inr (21, [.null, .null, .null, .null, .null, .int p655320, .int p655321]) ∧ dc ≤ 0 ∧ ds ≤ 0
set_option maxRecDepth 100000 in
set_option maxHeartbeats 4000000 in
theorem cp_655322_Exception_init (l : Launch) (hl0 : l.stackTraces = false) (D : va_G) (I : FieldType → ClassId) (P655317 : List Nat) (F655318 : Nat → va_E) (q655319 : Nat) (p655320 : Int32) (p655321 : Int32) (hmq655319 : q655319 ∈ P655317) (heq655319 : F655318 q655319 = .inr (21, [.null, .null, .null, .null, .null, .int p655320, .int p655321])) (bp655321 : gB p655321 0 8192) : CtA (gV D I) l yE_Exception_init4 cE_Exception_init4 5 none 2 36 0 0 [.ref q655319, .null, .null, .int 0, .int 0] (va_pl P655317 F655318) (pp_655322_Exception_init D I P655317 F655318 q655319 p655320 p655321) gNA := by
  refine CtA_ofF hl0 (by decide +kernel) (Nat.le_of_ble_eq_true rfl) ?_
  have bp655320 := gB_any p655320
  refine G_aload_n 0 dr_cE_Exception_init4_0 rfl ?_
  refine G_aload_nN 1 dr_cE_Exception_init4_1 rfl ?_
  refine G_aload_nN 2 dr_cE_Exception_init4_2 rfl ?_
  refine G_iload_n 3 dr_cE_Exception_init4_3 rfl ?_
  refine G_iload 4 dr_cE_Exception_init4_4 rfl ?_
  refine Gw_callI (As := [.null, .null, .int 0, .int 0]) (gV_ok D I) (cp_655328_Throwable_init l hl0 D I P655317 F655318 q655319 p655320 p655321 hmq655319 heq655319 bp655321) dr_cE_Exception_init4_6 ⟨wr_9_115, wr_1_23, wr_9_117, by decide, rfl, (Nat.le_of_ble_eq_true rfl), (Nat.le_of_ble_eq_true rfl)⟩ wr_9_116 rfl (show 0 + 0 ≤ 0 by first | omega | decide) (show 0 + 0 ≤ 0 by first | omega | decide) (Nat.le_of_ble_eq_true rfl) (fun r655458 w655459 dc655455 ds655456 hp655457 => ?_)
  obtain ⟨F655460, rfl, rfl, hfr655462, he655463, hdc, hds⟩ := hp655457
  have hfr655464 : rFr [q655319] P655317 F655318 F655460 := rFr_call (rSub_rf (P := P655317)) (rFr_rf (W := []) (P := P655317) (F := F655318)) hfr655462 (fun b hb hn => ⟨nm_n, (nm_c (fun e => hn (e ▸ List.mem_cons_self)) nm_n)⟩)
  change G _ _ _ _ _ _ _ _ _ _ _
  refine G_widen (cs' := 0) (sl' := 0) (by omega) (by omega) ?_
  exact G_vretA dr_cE_Exception_init4_9 rfl (Nat.le_of_ble_eq_true rfl) (Nat.le_of_ble_eq_true rfl) ⟨F655460, rfl, rfl, hfr655464, he655463, (Nat.le_of_ble_eq_true rfl), (Nat.le_of_ble_eq_true rfl)⟩
abbrev ky_655316_RuntimeException_init : gKey := (cE_RuntimeException_init4, 5, "java/lang/RuntimeException", none, [], "<init>", fun _ _ => True)
def pp_655316_RuntimeException_init (D : va_G) (I : FieldType → ClassId) (P655311 : List Nat) (F655312 : Nat → va_E) (q655313 : Nat) (p655314 : Int32) (p655315 : Int32) : Option Value → va_W → Nat → Nat → Prop := fun r w dc ds => ∃ (F655478 : Nat → va_E), r = none ∧ w = va_pl P655311 F655478 ∧ rFr [q655313] P655311 F655312 F655478 ∧ F655478 q655313 = .inr (21, [.null, .null, .null, .null, .null, .int p655314, .int p655315]) ∧ dc ≤ 0 ∧ ds ≤ 0
set_option maxRecDepth 100000 in
set_option maxHeartbeats 4000000 in
theorem cp_655316_RuntimeException_init (l : Launch) (hl0 : l.stackTraces = false) (D : va_G) (I : FieldType → ClassId) (P655311 : List Nat) (F655312 : Nat → va_E) (q655313 : Nat) (p655314 : Int32) (p655315 : Int32) (hmq655313 : q655313 ∈ P655311) (heq655313 : F655312 q655313 = .inr (21, [.null, .null, .null, .null, .null, .int p655314, .int p655315])) (bp655315 : gB p655315 0 8192) : CtA (gV D I) l yE_RuntimeException_init4 cE_RuntimeException_init4 5 none 3 60 0 0 [.ref q655313, .null, .null, .int 0, .int 0] (va_pl P655311 F655312) (pp_655316_RuntimeException_init D I P655311 F655312 q655313 p655314 p655315) gNA := by
  refine CtA_ofF hl0 (by decide +kernel) (Nat.le_of_ble_eq_true rfl) ?_
  have bp655314 := gB_any p655314
  refine G_aload_n 0 dr_cE_RuntimeException_init4_0 rfl ?_
  refine G_aload_nN 1 dr_cE_RuntimeException_init4_1 rfl ?_
  refine G_aload_nN 2 dr_cE_RuntimeException_init4_2 rfl ?_
  refine G_iload_n 3 dr_cE_RuntimeException_init4_3 rfl ?_
  refine G_iload 4 dr_cE_RuntimeException_init4_4 rfl ?_
  refine Gw_callI (As := [.null, .null, .int 0, .int 0]) (gV_ok D I) (cp_655322_Exception_init l hl0 D I P655311 F655312 q655313 p655314 p655315 hmq655313 heq655313 bp655315) dr_cE_RuntimeException_init4_6 ⟨wr_9_112, wr_1_24, wr_9_114, by decide, rfl, (Nat.le_of_ble_eq_true rfl), (Nat.le_of_ble_eq_true rfl)⟩ wr_9_113 rfl (show 0 + 0 ≤ 0 by first | omega | decide) (show 0 + 0 ≤ 0 by first | omega | decide) (Nat.le_of_ble_eq_true rfl) (fun r655470 w655471 dc655467 ds655468 hp655469 => ?_)
  obtain ⟨F655472, rfl, rfl, hfr655474, he655475, hdc, hds⟩ := hp655469
  have hfr655476 : rFr [q655313] P655311 F655312 F655472 := rFr_call (rSub_rf (P := P655311)) (rFr_rf (W := []) (P := P655311) (F := F655312)) hfr655474 (fun b hb hn => ⟨nm_n, (nm_c (fun e => hn (e ▸ List.mem_cons_self)) nm_n)⟩)
  change G _ _ _ _ _ _ _ _ _ _ _
  refine G_widen (cs' := 0) (sl' := 0) (by omega) (by omega) ?_
  exact G_vretA dr_cE_RuntimeException_init4_9 rfl (Nat.le_of_ble_eq_true rfl) (Nat.le_of_ble_eq_true rfl) ⟨F655472, rfl, rfl, hfr655476, he655475, (Nat.le_of_ble_eq_true rfl), (Nat.le_of_ble_eq_true rfl)⟩
abbrev ky_655310_Wrong_init : gKey := (cX16_init, 2, "SpillForgeModel$Wrong", none, [], "<init>", fun _ _ => True)
def pp_655310_Wrong_init (D : va_G) (I : FieldType → ClassId) (P655304 : List Nat) (F655305 : Nat → va_E) (q655306 : Nat) (p655307 : Int32) (p655308 : Int32) (p655309 : Int32) : Option Value → va_W → Nat → Nat → Prop := fun r w dc ds => ∃ (F655495 : Nat → va_E), r = none ∧ w = va_pl P655304 F655495 ∧ rFr [q655306] P655304 F655305 F655495 ∧ F655495 q655306 = .inr (21, [.null, .null, .null, .null, .null, .int p655308, .int p655307]) ∧ dc ≤ 0 ∧ ds ≤ 0
set_option maxRecDepth 100000 in
set_option maxHeartbeats 4000000 in
theorem cp_655310_Wrong_init (l : Launch) (hl0 : l.stackTraces = false) (D : va_G) (I : FieldType → ClassId) (P655304 : List Nat) (F655305 : Nat → va_E) (q655306 : Nat) (p655307 : Int32) (p655308 : Int32) (p655309 : Int32) (hmq655306 : q655306 ∈ P655304) (heq655306 : F655305 q655306 = .inr (21, [.null, .null, .null, .null, .null, .int p655308, .int p655309])) (bp655309 : gB p655309 0 8192) : CtA (gV D I) l yX16_init cX16_init 2 none 4 84 0 0 [.ref q655306, .int p655307] (va_pl P655304 F655305) (pp_655310_Wrong_init D I P655304 F655305 q655306 p655307 p655308 p655309) gNA := by
  refine CtA_of hl0 (by decide) (Nat.le_of_ble_eq_true rfl) ?_
  have bp655307 := gB_any p655307
  have bp655308 := gB_any p655308
  refine G_aload_n 0 dr_cX16_init_0 rfl ?_
  refine G_null dr_cX16_init_1 ?_
  refine G_null dr_cX16_init_2 ?_
  refine G_iconst 0 dr_cX16_init_3 (by decide +kernel) ?_
  refine G_iconst 0 dr_cX16_init_4 (by decide +kernel) ?_
  refine Gw_callI (As := [.null, .null, .int 0, .int 0]) (gV_ok D I) (cp_655316_RuntimeException_init l hl0 D I P655304 F655305 q655306 p655308 p655309 hmq655306 heq655306 bp655309) dr_cX16_init_5 ⟨wr_9_109, wr_1_25, wr_9_111, by decide, rfl, (Nat.le_of_ble_eq_true rfl), (Nat.le_of_ble_eq_true rfl)⟩ wr_9_110 rfl (show 0 + 0 ≤ 0 by first | omega | decide) (show 0 + 0 ≤ 0 by first | omega | decide) (Nat.le_of_ble_eq_true rfl) (fun r655482 w655483 dc655479 ds655480 hp655481 => ?_)
  obtain ⟨F655484, rfl, rfl, hfr655486, he655487, hdc, hds⟩ := hp655481
  have hfr655488 : rFr [q655306] P655304 F655305 F655484 := rFr_call (rSub_rf (P := P655304)) (rFr_rf (W := []) (P := P655304) (F := F655305)) hfr655486 (fun b hb hn => ⟨nm_n, (nm_c (fun e => hn (e ▸ List.mem_cons_self)) nm_n)⟩)
  change G _ _ _ _ _ _ _ _ _ _ _
  refine G_widen (cs' := 0) (sl' := 0) (by omega) (by omega) ?_
  refine G_aload_n 0 dr_cX16_init_8 rfl ?_
  refine G_iload_n 1 dr_cX16_init_9 rfl ?_
  refine Gp_putF 6 hmq655306 he655487 dr_cX16_init_10 (gk_X16 D I) (Nat.le_of_ble_eq_true rfl) wr_9_118 rfl rfl rfl rfl rfl (Nat.le_of_ble_eq_true rfl) (fun F655489 e655490 n655491 => ?_)
  have he655492 : F655489 q655306 = .inr (21, [.null, .null, .null, .null, .null, .int p655308, .int p655307]) := e655490
  have hfr655493 : rFr [q655306] P655304 F655305 F655489 := rFr_put' List.mem_cons_self hfr655488 n655491
  exact G_vretA dr_cX16_init_13 rfl (Nat.le_of_ble_eq_true rfl) (Nat.le_of_ble_eq_true rfl) ⟨F655489, rfl, rfl, hfr655493, he655492, (Nat.le_of_ble_eq_true rfl), (Nat.le_of_ble_eq_true rfl)⟩
abbrev ky_655287_Reader_no : gKey := (cX14_no, 1, "SpillForgeModel$Reader", (some (FieldType.object "SpillForgeModel$Wrong")), [], "no", fun _ _ => True)
def pp_655287_Reader_no (D : va_G) (I : FieldType → ClassId) (P655269 : List Nat) (F655270 : Nat → va_E) (q655271 : Nat) (q655272 : Nat) (p655273 : Int32) (p655274 : Int32) (p655275 : Int32) (p655276 : Int32) (p655277 : Int32) (p655278 : Int32) (qo655279 : Nat) (p655280 : Int32) (p655281 : Int32) (p655282 : Int32) (qo655283 : Nat) (qo655284 : Nat) (p655285 : Int32) (f655286 : Nat → Int32) : Option Value → va_W → Nat → Nat → Prop := fun r w dc ds => ∃ (P655509 : List Nat) (F655510 : Nat → va_E) (q655508 : Nat), r = some (.ref q655508) ∧ w = va_pl P655509 F655510 ∧ rSub P655269 P655509 ∧ rFr [] P655269 F655270 F655510 ∧ F655510 q655271 = .inr (19, [.ref q655272, .int p655273, .int p655274, .int p655275, .int p655276, .int p655277, .int p655278, .ref qo655279, .int p655280, .int p655281, .int p655282, .ref qo655283, .ref qo655284, .int p655285]) ∧ F655510 q655272 = .inl (I .byte, 8192, .inl f655286) ∧ F655510 q655508 = .inr (21, [.null, .null, .null, .null, .null, .int 0, .int p655276]) ∧ q655508 ∈ P655509 ∧ q655508 ∉ P655269 ∧ dc ≤ 1 ∧ ds ≤ 7
set_option maxRecDepth 100000 in
set_option maxHeartbeats 4000000 in
theorem cp_655287_Reader_no (l : Launch) (hl0 : l.stackTraces = false) (D : va_G) (I : FieldType → ClassId) (P655269 : List Nat) (F655270 : Nat → va_E) (q655271 : Nat) (q655272 : Nat) (p655273 : Int32) (p655274 : Int32) (p655275 : Int32) (p655276 : Int32) (p655277 : Int32) (p655278 : Int32) (qo655279 : Nat) (p655280 : Int32) (p655281 : Int32) (p655282 : Int32) (qo655283 : Nat) (qo655284 : Nat) (p655285 : Int32) (f655286 : Nat → Int32) (hmq655271 : q655271 ∈ P655269) (hmq655272 : q655272 ∈ P655269) (heq655271 : F655270 q655271 = .inr (19, [.ref q655272, .int p655273, .int p655274, .int p655275, .int p655276, .int p655277, .int p655278, .ref qo655279, .int p655280, .int p655281, .int p655282, .ref qo655283, .ref qo655284, .int p655285])) (heq655272 : F655270 q655272 = .inl (I .byte, 8192, .inl f655286)) (bp655273 : gB p655273 0 8192) (bp655274 : gB p655274 0 8192) (bp655275 : gB p655275 0 6) (bp655276 : gB p655276 0 8192) (bp655278 : gB p655278 0 6) (bp655280 : gB p655280 (-1) 8192) (bp655281 : gB p655281 0 4) (bp655282 : gB p655282 0 1000000) (bp655285 : gB p655285 0 1000000) (bf655286 : gF f655286 (-128) 127) : CtA (gV D I) l yX14_no cX14_no 1 (some (FieldType.object "SpillForgeModel$Wrong")) 5 105 1 7 [.ref q655271] (va_pl P655269 F655270) (pp_655287_Reader_no D I P655269 F655270 q655271 q655272 p655273 p655274 p655275 p655276 p655277 p655278 qo655279 p655280 p655281 p655282 qo655283 qo655284 p655285 f655286) gNA := by
  refine CtA_of hl0 (by decide) (Nat.le_of_ble_eq_true rfl) ?_
  have bp655277 := gB_any p655277
  refine G_new [.null, .null, .null, .null, .null, .int 0, .int 0] dr_cX14_no_0 (gk_X16 D I) wr_9_97 wr_9_98 wr_1_37 (gfs_X16) (show 0 + 1 ≤ 1 by first | omega | decide) (show 0 + 7 ≤ 7 by first | omega | decide) (fun q655288 => Gp_in (fun P655289 F655290 hq655291 hP655292 e655293 n655294 => ?_))
  refine G_widen (cs' := 1) (sl' := 7) (by omega) (by omega) ?_
  have he655295 : F655290 q655271 = .inr (19, [.ref q655272, .int p655273, .int p655274, .int p655275, .int p655276, .int p655277, .int p655278, .ref qo655279, .int p655280, .int p655281, .int p655282, .ref qo655283, .ref qo655284, .int p655285]) := (n655294 q655271 (fun h => hq655291 (h ▸ hmq655271))).trans heq655271
  have he655296 : F655290 q655272 = .inl (I .byte, 8192, .inl f655286) := (n655294 q655272 (fun h => hq655291 (h ▸ hmq655272))).trans heq655272
  have he655297 : F655290 q655288 = .inr (21, [.null, .null, .null, .null, .null, .int 0, .int 0]) := e655293
  have hm655298 : q655271 ∈ P655289 := (hP655292 q655271).mpr (Or.inl hmq655271)
  have hm655299 : q655272 ∈ P655289 := (hP655292 q655272).mpr (Or.inl hmq655272)
  have hm655300 : q655288 ∈ P655289 := (hP655292 q655288).mpr (Or.inr rfl)
  have hq655301 : q655288 ∉ P655269 := fun z => hq655291 ((rSub_rf (P := P655269)) q655288 z)
  have hfr655302 : rFr [] P655269 F655270 F655290 := rFr_new (rSub_rf (P := P655269)) hq655291 (rFr_rf (W := []) (P := P655269) (F := F655270)) n655294
  have hsb655303 : rSub P655269 P655289 := rSub_new (rSub_rf (P := P655269)) hP655292
  refine G_dup dr_cX14_no_3 rfl ?_
  refine G_aload_n 0 dr_cX14_no_4 rfl ?_
  refine Gp_get 4 hm655298 he655295 dr_cX14_no_5 (gk_X14 D I) (Nat.le_of_ble_eq_true rfl) wr_9_36 rfl ?_
  refine Gw_callI (As := [.int p655276]) (gV_ok D I) (cp_655310_Wrong_init l hl0 D I P655289 F655290 q655288 p655276 0 0 hm655300 he655297 (gB_w (gBl (show Int32.toInt 0 = 0 by decide)) (by decide) (by decide))) dr_cX14_no_8 ⟨wr_9_106, wr_1_37, wr_9_108, by decide, rfl, (Nat.le_of_ble_eq_true rfl), (Nat.le_of_ble_eq_true rfl)⟩ wr_9_107 rfl (show 1 + 0 ≤ 1 by first | omega | decide) (show 7 + 0 ≤ 7 by first | omega | decide) (Nat.le_of_ble_eq_true rfl) (fun r655499 w655500 dc655496 ds655497 hp655498 => ?_)
  obtain ⟨F655501, rfl, rfl, hfr655503, he655504, hdc, hds⟩ := hp655498
  have he655505 : F655501 q655271 = .inr (19, [.ref q655272, .int p655273, .int p655274, .int p655275, .int p655276, .int p655277, .int p655278, .ref qo655279, .int p655280, .int p655281, .int p655282, .ref qo655283, .ref qo655284, .int p655285]) := (hfr655503 q655271 hm655298 (nm_c (fun h => hq655301 (h ▸ hmq655271)) nm_n)).trans he655295
  have he655506 : F655501 q655272 = .inl (I .byte, 8192, .inl f655286) := (hfr655503 q655272 hm655299 (nm_c (fun h => hq655301 (h ▸ hmq655272)) nm_n)).trans he655296
  have hfr655507 : rFr [] P655269 F655270 F655501 := rFr_call hsb655303 hfr655302 hfr655503 (fun b hb hn => ⟨nm_n, (nm_c (fun e => hq655301 (e ▸ hb)) nm_n)⟩)
  change G _ _ _ _ _ _ _ _ _ _ _
  refine G_widen (cs' := 1) (sl' := 7) (by omega) (by omega) ?_
  exact G_aretA (FieldType.object "SpillForgeModel$Wrong") dr_cX14_no_11 rfl (by first | exact Or.inl ⟨_, rfl⟩ | exact Or.inr ⟨_, rfl⟩) (Or.inr ⟨_, rfl⟩) (Nat.le_of_ble_eq_true rfl) (Nat.le_of_ble_eq_true rfl) ⟨P655289, F655501, q655288, rfl, rfl, hsb655303, hfr655507, he655505, he655506, he655504, hm655300, hq655301, (Nat.le_of_ble_eq_true rfl), (Nat.le_of_ble_eq_true rfl)⟩
abbrev ky_655533_Reader_is : gKey := (cX14_is, 2, "SpillForgeModel$Reader", (some FieldType.boolean), [], "is", fun _ _ => True)
def pp_655533_Reader_is (D : va_G) (I : FieldType → ClassId) (P655511 : List Nat) (F655512 : Nat → va_E) (q655513 : Nat) (q655514 : Nat) (qs655515 : Nat) (qb655516 : Nat) (bs655517 : List Int32) (p655518 : Int32) (p655519 : Int32) (p655520 : Int32) (p655521 : Int32) (p655522 : Int32) (p655523 : Int32) (qo655524 : Nat) (p655525 : Int32) (p655526 : Int32) (p655527 : Int32) (qo655528 : Nat) (qo655529 : Nat) (p655530 : Int32) (f655531 : Nat → Int32) : Option Value → va_W → Nat → Nat → Prop := fun r w dc ds => ∃ (o655588 : Int32), r = some (.int o655588) ∧ w = va_pl P655511 F655512 ∧ dc ≤ 0 ∧ ds ≤ 0 ∧ gB o655588 0 1 ∧ isK p655520 o655588
set_option maxRecDepth 100000 in
set_option maxHeartbeats 4000000 in
theorem cp_655533_Reader_is (l : Launch) (hl0 : l.stackTraces = false) (D : va_G) (I : FieldType → ClassId) (P655511 : List Nat) (F655512 : Nat → va_E) (q655513 : Nat) (q655514 : Nat) (qs655515 : Nat) (qb655516 : Nat) (bs655517 : List Int32) (p655518 : Int32) (p655519 : Int32) (p655520 : Int32) (p655521 : Int32) (p655522 : Int32) (p655523 : Int32) (qo655524 : Nat) (p655525 : Int32) (p655526 : Int32) (p655527 : Int32) (qo655528 : Nat) (qo655529 : Nat) (p655530 : Int32) (f655531 : Nat → Int32) (hmq655513 : q655513 ∈ P655511) (hmq655514 : q655514 ∈ P655511) (heq655513 : F655512 q655513 = .inr (19, [.ref q655514, .int p655518, .int p655519, .int p655520, .int p655521, .int p655522, .int p655523, .ref qo655524, .int p655525, .int p655526, .int p655527, .ref qo655528, .ref qo655529, .int p655530])) (heq655514 : F655512 q655514 = .inl (I .byte, 8192, .inl f655531)) (hbs655517 : ∀ A s H, (gV D I).2.2.2.1 A s H → gSC qs655515 qb655516 bs655517 A s H) (nbs655517 : (bs655517.length : Int) ≤ 65535) (lbs655517 : gLB bs655517) (bp655518 : gB p655518 0 8192) (bp655519 : gB p655519 0 8192) (bp655520 : gB p655520 0 6) (bp655521 : gB p655521 0 8192) (bp655523 : gB p655523 0 6) (bp655525 : gB p655525 (-1) 8192) (bp655526 : gB p655526 0 4) (bp655527 : gB p655527 0 1000000) (bp655530 : gB p655530 0 1000000) (bf655531 : gF f655531 (-128) 127) (x655532 : tP I P655511 F655512 p655520 qo655524 qo655529 qo655528) : CtA (gV D I) l yX14_is cX14_is 2 (some FieldType.boolean) 2 44 0 0 [.ref q655513, .ref qs655515] (va_pl P655511 F655512) (pp_655533_Reader_is D I P655511 F655512 q655513 q655514 qs655515 qb655516 bs655517 p655518 p655519 p655520 p655521 p655522 p655523 qo655524 p655525 p655526 p655527 qo655528 qo655529 p655530 f655531) gNA := by
  refine CtA_of hl0 (by decide) (Nat.le_of_ble_eq_true rfl) ?_
  have bp655522 := gB_any p655522
  refine G_aload_n 0 dr_cX14_is_0 rfl ?_
  refine Gp_get 3 hmq655513 heq655513 dr_cX14_is_1 (gk_X14 D I) (Nat.le_of_ble_eq_true rfl) wr_9_35 rfl ?_
  refine G_iconst 5 dr_cX14_is_4 (by decide +kernel) ?_
  refine G_icmp_eq 16 dr_cX14_is_5 (by decide +kernel) (fun hc655534 => ?_) (fun hc655534 => ?_)
  · have r655535 : p655520.toInt = 5 := gj_eq hc655534 (show Int32.toInt 5 = 5 by decide)
    have bp655520' : gB p655520 5 5 := ⟨by omega, by omega⟩
    refine G_aload_n 0 dr_cX14_is_16 rfl ?_
    refine Gp_get 7 hmq655513 heq655513 dr_cX14_is_17 (gk_X14 D I) (Nat.le_of_ble_eq_true rfl) wr_9_39 rfl ?_
    obtain ⟨q655536, n655537, f655538, p655539, p655540, hm655541, he655542, hm655543, he655544, bf655538, x655545, bp655540, hg655546, hg655547⟩ := x655532.2 (by omega)
    have bp655539 := gB_any p655539
    refine G_aload_n 1 dr_cX14_is_20 rfl ?_
    refine Gw_callV (As := [.ref qs655515]) (gV_ok D I) (cp_641467_String_equals l hl0 D I P655511 F655512 qo655524 q655536 qs655515 qb655516 bs655517 p655539 p655540 f655538 n655537 hm655541 hm655543 he655542 he655544 hbs655517 nbs655517 lbs655517 bp655540 bf655538 (by have qa0 : Int32.toInt 0 = 0 := (by decide); omega)) dr_cX14_is_21 ⟨wr_9_141, wr_1_21, wr_9_144, by decide, rfl, (Nat.le_of_ble_eq_true rfl), (Nat.le_of_ble_eq_true rfl)⟩ wr_9_142 wr_9_143 hm655541 he655542 rfl (show 0 + 0 ≤ 0 by first | omega | decide) (show 0 + 0 ≤ 0 by first | omega | decide) (Nat.le_of_ble_eq_true rfl) (fun r655551 w655552 dc655548 ds655549 hp655550 => ?_) (fun _ _ _ _ _ z => z.elim)
    rcases hp655550 with ⟨o655553, rfl, rfl, hdc, hds, r655554, r655555⟩ | ⟨o655556, rfl, rfl, hdc, hds, r655557, r655558⟩ | ⟨rfl, rfl, hdc, hds⟩
    · change G _ _ _ _ _ _ _ (.int 0 :: _) _ _ _
      refine G_widen (cs' := 0) (sl' := 0) (by omega) (by omega) ?_
      refine G_if_eq 31 dr_cX14_is_24 (by decide +kernel) (fun _ => ?_) (fun hc => absurd hc (by decide))
      refine G_iconst 0 dr_cX14_is_31 (by decide +kernel) ?_
      exact G_zretA FieldType.boolean dr_cX14_is_32 rfl rfl (Nat.le_of_ble_eq_true rfl) (Nat.le_of_ble_eq_true rfl) ⟨0, rfl, rfl, (Nat.le_of_ble_eq_true rfl), (Nat.le_of_ble_eq_true rfl), (gB_w (gBl (show Int32.toInt 0 = 0 by decide)) (by decide) (by decide)), (Or.inl (by decide))⟩
    · change G _ _ _ _ _ _ _ (.int 1 :: _) _ _ _
      refine G_widen (cs' := 0) (sl' := 0) (by omega) (by omega) ?_
      refine G_if_eq 31 dr_cX14_is_24 (by decide +kernel) (fun hc => absurd hc (by decide)) (fun _ => ?_)
      refine G_iconst 1 dr_cX14_is_27 (by decide +kernel) ?_
      refine G_goto 32 dr_cX14_is_28 (by decide +kernel) ?_
      exact G_zretA FieldType.boolean dr_cX14_is_32 rfl rfl (Nat.le_of_ble_eq_true rfl) (Nat.le_of_ble_eq_true rfl) ⟨1, rfl, rfl, (Nat.le_of_ble_eq_true rfl), (Nat.le_of_ble_eq_true rfl), (gB_w (gBl (show Int32.toInt 1 = 1 by decide)) (by decide) (by decide)), (Or.inr (by omega))⟩
    · change G _ _ _ _ _ _ _ (.int 1 :: _) _ _ _
      refine G_widen (cs' := 0) (sl' := 0) (by omega) (by omega) ?_
      refine G_if_eq 31 dr_cX14_is_24 (by decide +kernel) (fun hc => absurd hc (by decide)) (fun _ => ?_)
      refine G_iconst 1 dr_cX14_is_27 (by decide +kernel) ?_
      refine G_goto 32 dr_cX14_is_28 (by decide +kernel) ?_
      exact G_zretA FieldType.boolean dr_cX14_is_32 rfl rfl (Nat.le_of_ble_eq_true rfl) (Nat.le_of_ble_eq_true rfl) ⟨1, rfl, rfl, (Nat.le_of_ble_eq_true rfl), (Nat.le_of_ble_eq_true rfl), (gB_w (gBl (show Int32.toInt 1 = 1 by decide)) (by decide) (by decide)), (Or.inr (by omega))⟩
  · have r655560 : p655520.toInt ≠ 5 := gj_neq hc655534 (show Int32.toInt 5 = 5 by decide)
    refine G_aload_n 0 dr_cX14_is_8 rfl ?_
    refine Gp_get 3 hmq655513 heq655513 dr_cX14_is_9 (gk_X14 D I) (Nat.le_of_ble_eq_true rfl) wr_9_35 rfl ?_
    refine G_iconst 1 dr_cX14_is_12 (by decide +kernel) ?_
    refine G_icmp_ne 31 dr_cX14_is_13 (by decide +kernel) (fun hc655561 => ?_) (fun hc655561 => ?_)
    · have r655562 : p655520.toInt ≠ 1 := gj_neq hc655561 (show Int32.toInt 1 = 1 by decide)
      refine G_iconst 0 dr_cX14_is_31 (by decide +kernel) ?_
      exact G_zretA FieldType.boolean dr_cX14_is_32 rfl rfl (Nat.le_of_ble_eq_true rfl) (Nat.le_of_ble_eq_true rfl) ⟨0, rfl, rfl, (Nat.le_of_ble_eq_true rfl), (Nat.le_of_ble_eq_true rfl), (gB_w (gBl (show Int32.toInt 0 = 0 by decide)) (by decide) (by decide)), (Or.inl (by decide))⟩
    · have r655563 : p655520.toInt = 1 := gj_eq hc655561 (show Int32.toInt 1 = 1 by decide)
      have bp655520' : gB p655520 1 1 := ⟨by omega, by omega⟩
      refine G_aload_n 0 dr_cX14_is_16 rfl ?_
      refine Gp_get 7 hmq655513 heq655513 dr_cX14_is_17 (gk_X14 D I) (Nat.le_of_ble_eq_true rfl) wr_9_39 rfl ?_
      obtain ⟨q655564, n655565, f655566, p655567, p655568, hm655569, he655570, hm655571, he655572, bf655566, x655573, bp655568, hg655574, hg655575⟩ := x655532.1 (by omega)
      have bp655567 := gB_any p655567
      refine G_aload_n 1 dr_cX14_is_20 rfl ?_
      refine Gw_callV (As := [.ref qs655515]) (gV_ok D I) (cp_641467_String_equals l hl0 D I P655511 F655512 qo655524 q655564 qs655515 qb655516 bs655517 p655567 p655568 f655566 n655565 hm655569 hm655571 he655570 he655572 hbs655517 nbs655517 lbs655517 bp655568 bf655566 (by have qa0 : Int32.toInt 0 = 0 := (by decide); omega)) dr_cX14_is_21 ⟨wr_9_141, wr_1_21, wr_9_144, by decide, rfl, (Nat.le_of_ble_eq_true rfl), (Nat.le_of_ble_eq_true rfl)⟩ wr_9_142 wr_9_143 hm655569 he655570 rfl (show 0 + 0 ≤ 0 by first | omega | decide) (show 0 + 0 ≤ 0 by first | omega | decide) (Nat.le_of_ble_eq_true rfl) (fun r655579 w655580 dc655576 ds655577 hp655578 => ?_) (fun _ _ _ _ _ z => z.elim)
      rcases hp655578 with ⟨o655581, rfl, rfl, hdc, hds, r655582, r655583⟩ | ⟨o655584, rfl, rfl, hdc, hds, r655585, r655586⟩ | ⟨rfl, rfl, hdc, hds⟩
      · change G _ _ _ _ _ _ _ (.int 0 :: _) _ _ _
        refine G_widen (cs' := 0) (sl' := 0) (by omega) (by omega) ?_
        refine G_if_eq 31 dr_cX14_is_24 (by decide +kernel) (fun _ => ?_) (fun hc => absurd hc (by decide))
        refine G_iconst 0 dr_cX14_is_31 (by decide +kernel) ?_
        exact G_zretA FieldType.boolean dr_cX14_is_32 rfl rfl (Nat.le_of_ble_eq_true rfl) (Nat.le_of_ble_eq_true rfl) ⟨0, rfl, rfl, (Nat.le_of_ble_eq_true rfl), (Nat.le_of_ble_eq_true rfl), (gB_w (gBl (show Int32.toInt 0 = 0 by decide)) (by decide) (by decide)), (Or.inl (by decide))⟩
      · change G _ _ _ _ _ _ _ (.int 1 :: _) _ _ _
        refine G_widen (cs' := 0) (sl' := 0) (by omega) (by omega) ?_
        refine G_if_eq 31 dr_cX14_is_24 (by decide +kernel) (fun hc => absurd hc (by decide)) (fun _ => ?_)
        refine G_iconst 1 dr_cX14_is_27 (by decide +kernel) ?_
        refine G_goto 32 dr_cX14_is_28 (by decide +kernel) ?_
        exact G_zretA FieldType.boolean dr_cX14_is_32 rfl rfl (Nat.le_of_ble_eq_true rfl) (Nat.le_of_ble_eq_true rfl) ⟨1, rfl, rfl, (Nat.le_of_ble_eq_true rfl), (Nat.le_of_ble_eq_true rfl), (gB_w (gBl (show Int32.toInt 1 = 1 by decide)) (by decide) (by decide)), (Or.inr (by omega))⟩
      · change G _ _ _ _ _ _ _ (.int 1 :: _) _ _ _
        refine G_widen (cs' := 0) (sl' := 0) (by omega) (by omega) ?_
        refine G_if_eq 31 dr_cX14_is_24 (by decide +kernel) (fun hc => absurd hc (by decide)) (fun _ => ?_)
        refine G_iconst 1 dr_cX14_is_27 (by decide +kernel) ?_
        refine G_goto 32 dr_cX14_is_28 (by decide +kernel) ?_
        exact G_zretA FieldType.boolean dr_cX14_is_32 rfl rfl (Nat.le_of_ble_eq_true rfl) (Nat.le_of_ble_eq_true rfl) ⟨1, rfl, rfl, (Nat.le_of_ble_eq_true rfl), (Nat.le_of_ble_eq_true rfl), (gB_w (gBl (show Int32.toInt 1 = 1 by decide)) (by decide) (by decide)), (Or.inr (by omega))⟩
abbrev ky_655614_Reader_want : gKey := (cX14_want, 2, "SpillForgeModel$Reader", none, [], "want", fun _ _ => True)
def pp_655614_Reader_want (D : va_G) (I : FieldType → ClassId) (P655589 : List Nat) (F655590 : Nat → va_E) (q655591 : Nat) (q655592 : Nat) (qs655593 : Nat) (qb655594 : Nat) (bs655595 : List Int32) (p655596 : Int32) (p655597 : Int32) (p655598 : Int32) (p655599 : Int32) (p655600 : Int32) (p655601 : Int32) (qo655602 : Nat) (p655603 : Int32) (p655604 : Int32) (p655605 : Int32) (qo655606 : Nat) (qo655607 : Nat) (p655608 : Int32) (f655609 : Nat → Int32) : Option Value → va_W → Nat → Nat → Prop := fun r w dc ds => ∃ (P655676 : List Nat) (F655677 : Nat → va_E) (o655671 : Int32) (o655672 : Int32) (o655673 : Int32) (o655674 : Int32) (q655675 : Nat), r = none ∧ w = va_pl P655676 F655677 ∧ rSub P655589 P655676 ∧ rFr [q655591] P655589 F655590 F655677 ∧ F655677 q655591 = .inr (19, [.ref q655592, .int p655596, .int o655671, .int o655672, .int o655673, .int o655674, .int p655598, .ref q655675, .int p655603, .int p655604, .int p655605, .ref qo655606, .ref qo655607, .int p655608]) ∧ F655677 q655592 = .inl (I .byte, 8192, .inl f655609) ∧ dc ≤ (16 * (o655671.toInt - p655597.toInt)).toNat ∧ ds ≤ (160 * (o655671.toInt - p655597.toInt)).toNat ∧ gB o655671 0 8192 ∧ gB o655672 0 6 ∧ gB o655673 0 8192 ∧ p655597.toInt ≤ o655671.toInt ∧ prP o655672 p655597 o655671 ∧ o655671.toInt ≤ p655596.toInt ∧ tP I P655676 F655677 o655672 q655675 qo655607 qo655606 ∧ vP o655672 o655674 ∧ nzK p655598
def xp_655614_Reader_want (D : va_G) (I : FieldType → ClassId) (P655589 : List Nat) (F655590 : Nat → va_E) (q655591 : Nat) (q655592 : Nat) (qs655593 : Nat) (qb655594 : Nat) (bs655595 : List Int32) (p655596 : Int32) (p655597 : Int32) (p655598 : Int32) (p655599 : Int32) (p655600 : Int32) (p655601 : Int32) (qo655602 : Nat) (p655603 : Int32) (p655604 : Int32) (p655605 : Int32) (qo655606 : Nat) (qo655607 : Nat) (p655608 : Int32) (f655609 : Nat → Int32) : String → Nat → va_W → Nat → Nat → Prop := fun E q w dc ds => ∃ (P655679 : List Nat) (F655678 : Nat → va_E), E = "SpillForgeModel$Wrong" ∧ w = va_pl P655679 F655678 ∧ rSub P655589 P655679 ∧ rFr [] P655589 F655590 F655678 ∧ q ∈ P655679 ∧ q ∉ P655589 ∧ wrF F655678 q ∧ dc ≤ (16 * (p655596.toInt - p655597.toInt)).toNat + 1 ∧ ds ≤ (160 * (p655596.toInt - p655597.toInt)).toNat + 7
set_option maxRecDepth 100000 in
set_option maxHeartbeats 4000000 in
theorem cp_655614_Reader_want (l : Launch) (hl0 : l.stackTraces = false) (D : va_G) (I : FieldType → ClassId) (P655589 : List Nat) (F655590 : Nat → va_E) (q655591 : Nat) (q655592 : Nat) (qs655593 : Nat) (qb655594 : Nat) (bs655595 : List Int32) (p655596 : Int32) (p655597 : Int32) (p655598 : Int32) (p655599 : Int32) (p655600 : Int32) (p655601 : Int32) (qo655602 : Nat) (p655603 : Int32) (p655604 : Int32) (p655605 : Int32) (qo655606 : Nat) (qo655607 : Nat) (p655608 : Int32) (f655609 : Nat → Int32) (hmq655591 : q655591 ∈ P655589) (hmq655592 : q655592 ∈ P655589) (heq655591 : F655590 q655591 = .inr (19, [.ref q655592, .int p655596, .int p655597, .int p655598, .int p655599, .int p655600, .int p655601, .ref qo655602, .int p655603, .int p655604, .int p655605, .ref qo655606, .ref qo655607, .int p655608])) (heq655592 : F655590 q655592 = .inl (I .byte, 8192, .inl f655609)) (hbs655595 : ∀ A s H, (gV D I).2.2.2.1 A s H → gSC qs655593 qb655594 bs655595 A s H) (nbs655595 : (bs655595.length : Int) ≤ 65535) (lbs655595 : gLB bs655595) (bp655596 : gB p655596 0 8192) (bp655597 : gB p655597 0 8192) (bp655598 : gB p655598 0 6) (bp655599 : gB p655599 0 8192) (bp655601 : gB p655601 0 6) (bp655603 : gB p655603 (-1) 8192) (bp655604 : gB p655604 0 4) (bp655605 : gB p655605 0 1000000) (bp655608 : gB p655608 0 1000000) (bf655609 : gF f655609 (-128) 127) (x655610 : p655597.toInt ≤ p655596.toInt) (x655611 : qo655607 ∈ P655589) (x655612 : qo655606 ∈ P655589) (x655613 : tP I P655589 F655590 p655598 qo655602 qo655607 qo655606) : CtA (gV D I) l yX14_want cX14_want 2 none 8 177 ((16 * (p655596.toInt - p655597.toInt)).toNat + 1) ((160 * (p655596.toInt - p655597.toInt)).toNat + 7) [.ref q655591, .ref qs655593] (va_pl P655589 F655590) (pp_655614_Reader_want D I P655589 F655590 q655591 q655592 qs655593 qb655594 bs655595 p655596 p655597 p655598 p655599 p655600 p655601 qo655602 p655603 p655604 p655605 qo655606 qo655607 p655608 f655609) (xp_655614_Reader_want D I P655589 F655590 q655591 q655592 qs655593 qb655594 bs655595 p655596 p655597 p655598 p655599 p655600 p655601 qo655602 p655603 p655604 p655605 qo655606 qo655607 p655608 f655609) := by
  refine CtA_of hl0 (by decide) (Nat.le_of_ble_eq_true rfl) ?_
  have bp655600 := gB_any p655600
  refine G_aload_n 0 dr_cX14_want_0 rfl ?_
  refine G_aload_n 1 dr_cX14_want_1 rfl ?_
  refine Gw_callV (As := [.ref qs655593]) (gV_ok D I) (cp_655533_Reader_is l hl0 D I P655589 F655590 q655591 q655592 qs655593 qb655594 bs655595 p655596 p655597 p655598 p655599 p655600 p655601 qo655602 p655603 p655604 p655605 qo655606 qo655607 p655608 f655609 hmq655591 hmq655592 heq655591 heq655592 hbs655595 nbs655595 lbs655595 bp655596 bp655597 bp655598 bp655599 bp655601 bp655603 bp655604 bp655605 bp655608 bf655609 x655613) dr_cX14_want_2 ⟨wr_9_137, wr_1_32, wr_9_140, by decide, rfl, (Nat.le_of_ble_eq_true rfl), (Nat.le_of_ble_eq_true rfl)⟩ wr_9_139 wr_p_84 hmq655591 heq655591 rfl (show 0 + 0 ≤ ((16 * (p655596.toInt - p655597.toInt)).toNat + 1) by first | omega | decide) (show 0 + 0 ≤ ((160 * (p655596.toInt - p655597.toInt)).toNat + 7) by first | omega | decide) (Nat.le_of_ble_eq_true rfl) (fun r655618 w655619 dc655615 ds655616 hp655617 => ?_) (fun _ _ _ _ _ z => z.elim)
  obtain ⟨o655620, rfl, rfl, hdc, hds, bo655620, x655621⟩ := hp655617
  change G _ _ _ _ _ _ _ (.int o655620 :: _) _ _ _
  refine G_widen (cs' := 0) (sl' := 0) (by omega) (by omega) ?_
  refine G_if_ne 13 dr_cX14_want_5 (by decide +kernel) (fun hc655622 => ?_) (fun hc655622 => ?_)
  · have r655623 : o655620.toInt ≠ 0 := gj_neq hc655622 (show Int32.toInt 0 = 0 by decide)
    have bo655620' : gB o655620 1 1 := ⟨by omega, by omega⟩
    refine G_aload_n 0 dr_cX14_want_13 rfl ?_
    refine Gw_callV (As := []) (gV_ok D I) (cp_653656_Reader_next l hl0 D I P655589 F655590 q655591 q655592 p655596 p655597 p655598 p655599 p655600 p655601 qo655602 p655603 p655604 p655605 qo655606 qo655607 p655608 f655609 hmq655591 hmq655592 heq655591 heq655592 bp655596 bp655597 bp655598 bp655599 bp655601 bp655603 bp655604 bp655605 bp655608 bf655609 (by omega) x655611 x655612) dr_cX14_want_14 ⟨wr_7_211, wr_1_32, wr_7_214, by decide, rfl, (Nat.le_of_ble_eq_true rfl), (Nat.le_of_ble_eq_true rfl)⟩ wr_7_213 wr_p_75 hmq655591 heq655591 rfl (show 0 + ((16 * (p655596.toInt - p655597.toInt)).toNat) ≤ ((16 * (p655596.toInt - p655597.toInt)).toNat + 1) by first | omega | decide) (show 0 + ((160 * (p655596.toInt - p655597.toInt)).toNat) ≤ ((160 * (p655596.toInt - p655597.toInt)).toNat + 7) by first | omega | decide) (Nat.le_of_ble_eq_true rfl) (fun r655627 w655628 dc655624 ds655625 hp655626 => ?_) (fun _ _ _ _ _ z => z.elim)
    obtain ⟨P655639, F655640, o655629, o655630, o655631, o655632, q655633, rfl, rfl, hsb655641, hfr655642, he655643, he655644, hdc, hds, bo655629, bo655630, bo655631, x655634, x655635, x655636, x655637, x655638⟩ := hp655626
    have hm655645 : q655591 ∈ P655639 := hsb655641 q655591 hmq655591
    have hm655646 : q655592 ∈ P655639 := hsb655641 q655592 hmq655592
    have hsb655647 : rSub P655589 P655639 := rSub_tr (rSub_rf (P := P655589)) hsb655641
    have hfr655648 : rFr [q655591] P655589 F655590 F655640 := rFr_call (rSub_rf (P := P655589)) (rFr_rf (W := []) (P := P655589) (F := F655590)) hfr655642 (fun b hb hn => ⟨nm_n, (nm_c (fun e => hn (e ▸ List.mem_cons_self)) nm_n)⟩)
    have bo655632 := gB_any o655632
    change G _ _ _ _ _ _ _ _ _ _ _
    refine G_widen (cs' := (16 * (o655629.toInt - p655597.toInt)).toNat) (sl' := (160 * (o655629.toInt - p655597.toInt)).toNat) (by omega) (by omega) ?_
    exact G_vretA dr_cX14_want_17 rfl (show (16 * (o655629.toInt - p655597.toInt)).toNat ≤ ((16 * (p655596.toInt - p655597.toInt)).toNat + 1) by omega) (show (160 * (o655629.toInt - p655597.toInt)).toNat ≤ ((160 * (p655596.toInt - p655597.toInt)).toNat + 7) by omega) ⟨P655639, F655640, o655629, o655630, o655631, o655632, q655633, rfl, rfl, hsb655647, hfr655648, he655643, he655644, (by omega), (by omega), bo655629, bo655630, bo655631, (by omega), x655635, (by omega), x655637, x655638, (isK_1 x655621 (by omega))⟩
  · have r655649 : o655620.toInt = 0 := gj_eq hc655622 (show Int32.toInt 0 = 0 by decide)
    have bo655620' : gB o655620 0 0 := ⟨by omega, by omega⟩
    refine G_aload_n 0 dr_cX14_want_8 rfl ?_
    refine Gw_callV (As := []) (gV_ok D I) (cp_655287_Reader_no l hl0 D I P655589 F655590 q655591 q655592 p655596 p655597 p655598 p655599 p655600 p655601 qo655602 p655603 p655604 p655605 qo655606 qo655607 p655608 f655609 hmq655591 hmq655592 heq655591 heq655592 bp655596 bp655597 bp655598 bp655599 bp655601 bp655603 bp655604 bp655605 bp655608 bf655609) dr_cX14_want_9 ⟨wr_9_93, wr_1_32, wr_9_96, by decide, rfl, (Nat.le_of_ble_eq_true rfl), (Nat.le_of_ble_eq_true rfl)⟩ wr_9_95 wr_p_81 hmq655591 heq655591 rfl (show 0 + 1 ≤ ((16 * (p655596.toInt - p655597.toInt)).toNat + 1) by first | omega | decide) (show 0 + 7 ≤ ((160 * (p655596.toInt - p655597.toInt)).toNat + 7) by first | omega | decide) (Nat.le_of_ble_eq_true rfl) (fun r655653 w655654 dc655650 ds655651 hp655652 => ?_) (fun _ _ _ _ _ z => z.elim)
    obtain ⟨P655656, F655657, q655655, rfl, rfl, hsb655658, hfr655659, he655660, he655661, he655662, hm655663, hq655664, hdc, hds⟩ := hp655652
    have hm655665 : q655591 ∈ P655656 := hsb655658 q655591 hmq655591
    have hm655666 : q655592 ∈ P655656 := hsb655658 q655592 hmq655592
    have hq655667 : q655655 ∉ P655589 := fun z => hq655664 ((rSub_rf (P := P655589)) q655655 z)
    have hsb655668 : rSub P655589 P655656 := rSub_tr (rSub_rf (P := P655589)) hsb655658
    have hfr655669 : rFr [] P655589 F655590 F655657 := rFr_call (rSub_rf (P := P655589)) (rFr_rf (W := []) (P := P655589) (F := F655590)) hfr655659 (fun b hb hn => ⟨nm_n, nm_n⟩)
    have tp655670 : tP I P655656 F655657 p655598 qo655602 qo655607 qo655606 := tP_new x655613 hsb655658 (fun b hb => hfr655659 b hb (fun z => by cases z)) (Or.inl rfl) (Or.inl rfl)
    change G _ _ _ _ _ _ _ (.ref q655655 :: _) _ _ _
    refine G_widen (cs' := 1) (sl' := 7) (by omega) (by omega) ?_
    exact Gp_athrow hm655663 he655662 rfl dr_cX14_want_12 (GT_outA rfl (show 1 ≤ ((16 * (p655596.toInt - p655597.toInt)).toNat + 1) by omega) (show 7 ≤ ((160 * (p655596.toInt - p655597.toInt)).toNat + 7) by omega) ⟨P655656, F655657, rfl, rfl, hsb655668, hfr655669, hm655663, hq655667, ⟨_, _, _, _, _, _, _, he655662, by omega⟩, (by omega), (by omega)⟩)
abbrev ky_655704_Reader_want : gKey := (cX14_want_, 3, "SpillForgeModel$Reader", (some FieldType.int), [], "want", fun _ _ => True)
def pp_655704_Reader_want (D : va_G) (I : FieldType → ClassId) (P655680 : List Nat) (F655681 : Nat → va_E) (q655682 : Nat) (q655683 : Nat) (p655684 : Int32) (p655685 : Int32) (p655686 : Int32) (p655687 : Int32) (p655688 : Int32) (p655689 : Int32) (p655690 : Int32) (qo655691 : Nat) (p655692 : Int32) (p655693 : Int32) (p655694 : Int32) (qo655695 : Nat) (qo655696 : Nat) (p655697 : Int32) (f655698 : Nat → Int32) : Option Value → va_W → Nat → Nat → Prop := fun r w dc ds => ∃ (P655759 : List Nat) (F655760 : Nat → va_E) (o655754 : Int32) (o655755 : Int32) (o655756 : Int32) (o655757 : Int32) (q655758 : Nat), r = some (.int p655689) ∧ w = va_pl P655759 F655760 ∧ rSub P655680 P655759 ∧ rFr [q655682] P655680 F655681 F655760 ∧ F655760 q655682 = .inr (19, [.ref q655683, .int p655685, .int o655754, .int o655755, .int o655756, .int o655757, .int p655687, .ref q655758, .int p655692, .int p655693, .int p655694, .ref qo655695, .ref qo655696, .int p655697]) ∧ F655760 q655683 = .inl (I .byte, 8192, .inl f655698) ∧ dc ≤ (16 * (o655754.toInt - p655686.toInt)).toNat ∧ ds ≤ (160 * (o655754.toInt - p655686.toInt)).toNat ∧ gB o655754 0 8192 ∧ gB o655755 0 6 ∧ gB o655756 0 8192 ∧ p655686.toInt ≤ o655754.toInt ∧ prP o655755 p655686 o655754 ∧ o655754.toInt ≤ p655685.toInt ∧ tP I P655759 F655760 o655755 q655758 qo655696 qo655695 ∧ vP o655755 o655757 ∧ vP p655684 p655689 ∧ p655687.toInt = p655684.toInt
def xp_655704_Reader_want (D : va_G) (I : FieldType → ClassId) (P655680 : List Nat) (F655681 : Nat → va_E) (q655682 : Nat) (q655683 : Nat) (p655684 : Int32) (p655685 : Int32) (p655686 : Int32) (p655687 : Int32) (p655688 : Int32) (p655689 : Int32) (p655690 : Int32) (qo655691 : Nat) (p655692 : Int32) (p655693 : Int32) (p655694 : Int32) (qo655695 : Nat) (qo655696 : Nat) (p655697 : Int32) (f655698 : Nat → Int32) : String → Nat → va_W → Nat → Nat → Prop := fun E q w dc ds => ∃ (P655762 : List Nat) (F655761 : Nat → va_E), E = "SpillForgeModel$Wrong" ∧ w = va_pl P655762 F655761 ∧ rSub P655680 P655762 ∧ rFr [] P655680 F655681 F655761 ∧ q ∈ P655762 ∧ q ∉ P655680 ∧ wrF F655761 q ∧ dc ≤ (16 * (p655685.toInt - p655686.toInt)).toNat + 1 ∧ ds ≤ (160 * (p655685.toInt - p655686.toInt)).toNat + 7
set_option maxRecDepth 100000 in
set_option maxHeartbeats 4000000 in
theorem cp_655704_Reader_want (l : Launch) (hl0 : l.stackTraces = false) (D : va_G) (I : FieldType → ClassId) (P655680 : List Nat) (F655681 : Nat → va_E) (q655682 : Nat) (q655683 : Nat) (p655684 : Int32) (p655685 : Int32) (p655686 : Int32) (p655687 : Int32) (p655688 : Int32) (p655689 : Int32) (p655690 : Int32) (qo655691 : Nat) (p655692 : Int32) (p655693 : Int32) (p655694 : Int32) (qo655695 : Nat) (qo655696 : Nat) (p655697 : Int32) (f655698 : Nat → Int32) (hmq655682 : q655682 ∈ P655680) (hmq655683 : q655683 ∈ P655680) (heq655682 : F655681 q655682 = .inr (19, [.ref q655683, .int p655685, .int p655686, .int p655687, .int p655688, .int p655689, .int p655690, .ref qo655691, .int p655692, .int p655693, .int p655694, .ref qo655695, .ref qo655696, .int p655697])) (heq655683 : F655681 q655683 = .inl (I .byte, 8192, .inl f655698)) (bp655684 : gB p655684 0 6) (bp655685 : gB p655685 0 8192) (bp655686 : gB p655686 0 8192) (bp655687 : gB p655687 0 6) (bp655688 : gB p655688 0 8192) (bp655690 : gB p655690 0 6) (bp655692 : gB p655692 (-1) 8192) (bp655693 : gB p655693 0 4) (bp655694 : gB p655694 0 1000000) (bp655697 : gB p655697 0 1000000) (bf655698 : gF f655698 (-128) 127) (x655699 : p655686.toInt ≤ p655685.toInt) (x655700 : qo655696 ∈ P655680) (x655701 : qo655695 ∈ P655680) (x655702 : tP I P655680 F655681 p655687 qo655691 qo655696 qo655695) (x655703 : vP p655687 p655689) : CtA (gV D I) l yX14_want_ cX14_want_ 3 (some FieldType.int) 8 177 ((16 * (p655685.toInt - p655686.toInt)).toNat + 1) ((160 * (p655685.toInt - p655686.toInt)).toNat + 7) [.ref q655682, .int p655684] (va_pl P655680 F655681) (pp_655704_Reader_want D I P655680 F655681 q655682 q655683 p655684 p655685 p655686 p655687 p655688 p655689 p655690 qo655691 p655692 p655693 p655694 qo655695 qo655696 p655697 f655698) (xp_655704_Reader_want D I P655680 F655681 q655682 q655683 p655684 p655685 p655686 p655687 p655688 p655689 p655690 qo655691 p655692 p655693 p655694 qo655695 qo655696 p655697 f655698) := by
  refine CtA_of hl0 (by decide) (Nat.le_of_ble_eq_true rfl) ?_
  have bp655689 := gB_any p655689
  refine G_aload_n 0 dr_cX14_want__0 rfl ?_
  refine Gp_get 3 hmq655682 heq655682 dr_cX14_want__1 (gk_X14 D I) (Nat.le_of_ble_eq_true rfl) wr_9_35 rfl ?_
  refine G_iload_n 1 dr_cX14_want__4 rfl ?_
  refine G_icmp_eq 13 dr_cX14_want__5 (by decide +kernel) (fun hc655705 => ?_) (fun hc655705 => ?_)
  · have r655706 : p655687.toInt = p655684.toInt := gC_eq hc655705
    refine G_aload_n 0 dr_cX14_want__13 rfl ?_
    refine Gp_get 5 hmq655682 heq655682 dr_cX14_want__14 (gk_X14 D I) (Nat.le_of_ble_eq_true rfl) wr_9_37 rfl ?_
    refine G_istore_n (L' := [(2, .int p655689), (0, .ref q655682), (1, .int p655684)]) dr_cX14_want__17 (Nat.le_of_ble_eq_true rfl) rfl ?_
    refine G_aload_n 1 dr_cX14_want__18 rfl ?_
    refine Gw_callV (As := []) (gV_ok D I) (cp_653656_Reader_next l hl0 D I P655680 F655681 q655682 q655683 p655685 p655686 p655687 p655688 p655689 p655690 qo655691 p655692 p655693 p655694 qo655695 qo655696 p655697 f655698 hmq655682 hmq655683 heq655682 heq655683 bp655685 bp655686 bp655687 bp655688 bp655690 bp655692 bp655693 bp655694 bp655697 bf655698 (by omega) x655700 x655701) dr_cX14_want__19 ⟨wr_7_211, wr_1_32, wr_7_214, by decide, rfl, (Nat.le_of_ble_eq_true rfl), (Nat.le_of_ble_eq_true rfl)⟩ wr_7_213 wr_p_75 hmq655682 heq655682 rfl (show 0 + ((16 * (p655685.toInt - p655686.toInt)).toNat) ≤ ((16 * (p655685.toInt - p655686.toInt)).toNat + 1) by first | omega | decide) (show 0 + ((160 * (p655685.toInt - p655686.toInt)).toNat) ≤ ((160 * (p655685.toInt - p655686.toInt)).toNat + 7) by first | omega | decide) (Nat.le_of_ble_eq_true rfl) (fun r655710 w655711 dc655707 ds655708 hp655709 => ?_) (fun _ _ _ _ _ z => z.elim)
    obtain ⟨P655722, F655723, o655712, o655713, o655714, o655715, q655716, rfl, rfl, hsb655724, hfr655725, he655726, he655727, hdc, hds, bo655712, bo655713, bo655714, x655717, x655718, x655719, x655720, x655721⟩ := hp655709
    have hm655728 : q655682 ∈ P655722 := hsb655724 q655682 hmq655682
    have hm655729 : q655683 ∈ P655722 := hsb655724 q655683 hmq655683
    have hsb655730 : rSub P655680 P655722 := rSub_tr (rSub_rf (P := P655680)) hsb655724
    have hfr655731 : rFr [q655682] P655680 F655681 F655723 := rFr_call (rSub_rf (P := P655680)) (rFr_rf (W := []) (P := P655680) (F := F655681)) hfr655725 (fun b hb hn => ⟨nm_n, (nm_c (fun e => hn (e ▸ List.mem_cons_self)) nm_n)⟩)
    have bo655715 := gB_any o655715
    change G _ _ _ _ _ _ _ _ _ _ _
    refine G_widen (cs' := (16 * (o655712.toInt - p655686.toInt)).toNat) (sl' := (160 * (o655712.toInt - p655686.toInt)).toNat) (by omega) (by omega) ?_
    refine G_iload_n 0 dr_cX14_want__22 rfl ?_
    exact G_iretA dr_cX14_want__23 rfl (show (16 * (o655712.toInt - p655686.toInt)).toNat ≤ ((16 * (p655685.toInt - p655686.toInt)).toNat + 1) by omega) (show (160 * (o655712.toInt - p655686.toInt)).toNat ≤ ((160 * (p655685.toInt - p655686.toInt)).toNat + 7) by omega) ⟨P655722, F655723, o655712, o655713, o655714, o655715, q655716, rfl, rfl, hsb655730, hfr655731, he655726, he655727, (by omega), (by omega), bo655712, bo655713, bo655714, (by omega), x655718, (by omega), x655720, x655721, (vP_eq x655703 (by omega)), (by omega)⟩
  · have r655732 : p655687.toInt ≠ p655684.toInt := gC_ne hc655705
    refine G_aload_n 0 dr_cX14_want__8 rfl ?_
    refine Gw_callV (As := []) (gV_ok D I) (cp_655287_Reader_no l hl0 D I P655680 F655681 q655682 q655683 p655685 p655686 p655687 p655688 p655689 p655690 qo655691 p655692 p655693 p655694 qo655695 qo655696 p655697 f655698 hmq655682 hmq655683 heq655682 heq655683 bp655685 bp655686 bp655687 bp655688 bp655690 bp655692 bp655693 bp655694 bp655697 bf655698) dr_cX14_want__9 ⟨wr_9_93, wr_1_32, wr_9_96, by decide, rfl, (Nat.le_of_ble_eq_true rfl), (Nat.le_of_ble_eq_true rfl)⟩ wr_9_95 wr_p_81 hmq655682 heq655682 rfl (show 0 + 1 ≤ ((16 * (p655685.toInt - p655686.toInt)).toNat + 1) by first | omega | decide) (show 0 + 7 ≤ ((160 * (p655685.toInt - p655686.toInt)).toNat + 7) by first | omega | decide) (Nat.le_of_ble_eq_true rfl) (fun r655736 w655737 dc655733 ds655734 hp655735 => ?_) (fun _ _ _ _ _ z => z.elim)
    obtain ⟨P655739, F655740, q655738, rfl, rfl, hsb655741, hfr655742, he655743, he655744, he655745, hm655746, hq655747, hdc, hds⟩ := hp655735
    have hm655748 : q655682 ∈ P655739 := hsb655741 q655682 hmq655682
    have hm655749 : q655683 ∈ P655739 := hsb655741 q655683 hmq655683
    have hq655750 : q655738 ∉ P655680 := fun z => hq655747 ((rSub_rf (P := P655680)) q655738 z)
    have hsb655751 : rSub P655680 P655739 := rSub_tr (rSub_rf (P := P655680)) hsb655741
    have hfr655752 : rFr [] P655680 F655681 F655740 := rFr_call (rSub_rf (P := P655680)) (rFr_rf (W := []) (P := P655680) (F := F655681)) hfr655742 (fun b hb hn => ⟨nm_n, nm_n⟩)
    have tp655753 : tP I P655739 F655740 p655687 qo655691 qo655696 qo655695 := tP_new x655702 hsb655741 (fun b hb => hfr655742 b hb (fun z => by cases z)) (Or.inl rfl) (Or.inl rfl)
    change G _ _ _ _ _ _ _ (.ref q655738 :: _) _ _ _
    refine G_widen (cs' := 1) (sl' := 7) (by omega) (by omega) ?_
    exact Gp_athrow hm655746 he655745 rfl dr_cX14_want__12 (GT_outA rfl (show 1 ≤ ((16 * (p655685.toInt - p655686.toInt)).toNat + 1) by omega) (show 7 ≤ ((160 * (p655685.toInt - p655686.toInt)).toNat + 7) by omega) ⟨P655739, F655740, rfl, rfl, hsb655751, hfr655752, hm655746, hq655750, ⟨_, _, _, _, _, _, _, he655745, by omega⟩, (by omega), (by omega)⟩)
