theorem dr_cJ7_copyOf_59c91_0 : decode cJ7_copyOf_59c91 0 = .ok (.iload_n 1, 1) := by decide +kernel
theorem dr_cJ7_copyOf_59c91_1 : decode cJ7_copyOf_59c91 1 = .ok (.aload_n 0, 1) := by decide +kernel
theorem dr_cJ7_copyOf_59c91_2 : decode cJ7_copyOf_59c91 2 = .ok (.arraylength, 1) := by decide +kernel
theorem dr_cJ7_copyOf_59c91_3 : decode cJ7_copyOf_59c91 3 = .ok (.if_icmp .ne 11, 3) := by decide +kernel
theorem dr_cJ7_copyOf_59c91_14 : decode cJ7_copyOf_59c91 14 = .ok (.iload_n 1, 1) := by decide +kernel
theorem dr_cJ7_copyOf_59c91_15 : decode cJ7_copyOf_59c91 15 = .ok (.newarray .int, 2) := by decide +kernel
theorem wr_1_95 : (Jvm.Cond.arrayClass Jvm.ClassFile.FieldType.int) ∈ gw := gw_1 95 rfl rfl
theorem dr_cJ7_copyOf_59c91_17 : decode cJ7_copyOf_59c91 17 = .ok (.astore_n 2, 1) := by decide +kernel
theorem dr_cJ7_copyOf_59c91_18 : decode cJ7_copyOf_59c91 18 = .ok (.aload_n 0, 1) := by decide +kernel
theorem dr_cJ7_copyOf_59c91_19 : decode cJ7_copyOf_59c91 19 = .ok (.iconst 0, 1) := by decide +kernel
theorem dr_cJ7_copyOf_59c91_20 : decode cJ7_copyOf_59c91 20 = .ok (.aload_n 2, 1) := by decide +kernel
theorem dr_cJ7_copyOf_59c91_21 : decode cJ7_copyOf_59c91 21 = .ok (.iconst 0, 1) := by decide +kernel
theorem dr_cJ7_copyOf_59c91_22 : decode cJ7_copyOf_59c91 22 = .ok (.aload_n 0, 1) := by decide +kernel
theorem dr_cJ7_copyOf_59c91_23 : decode cJ7_copyOf_59c91 23 = .ok (.arraylength, 1) := by decide +kernel
theorem dr_cJ7_copyOf_59c91_24 : decode cJ7_copyOf_59c91 24 = .ok (.iload_n 1, 1) := by decide +kernel
theorem dr_cJ7_copyOf_59c91_25 : decode cJ7_copyOf_59c91 25 = .ok (.invokestatic 304, 3) := by decide +kernel
theorem dr_cJ7_copyOf_59c91_28 : decode cJ7_copyOf_59c91 28 = .ok (.invokestatic 150, 3) := by decide +kernel
theorem dr_cJ7_copyOf_59c91_31 : decode cJ7_copyOf_59c91 31 = .ok (.aload_n 2, 1) := by decide +kernel
theorem dr_cJ7_copyOf_59c91_32 : decode cJ7_copyOf_59c91 32 = .ok (.areturn, 1) := by decide +kernel
theorem dr_cX14_goal_0 : decode cX14_goal 0 = .ok (.aload_n 0, 1) := by decide +kernel
theorem dr_cX14_goal_1 : decode cX14_goal 1 = .ok (.getfield 143, 3) := by decide +kernel
theorem wr_9_51 : (Jvm.Cond.fieldLink "SpillForgeModel$Reader" (143 : Nat) "SpillForgeModel$Reader" "goalN" "I") ∈ gw := gw_9 51 rfl rfl
theorem dr_cX14_goal_4 : decode cX14_goal 4 = .ok (.aload_n 0, 1) := by decide +kernel
theorem dr_cX14_goal_5 : decode cX14_goal 5 = .ok (.getfield 25, 3) := by decide +kernel
theorem wr_9_50 : (Jvm.Cond.fieldLink "SpillForgeModel$Reader" (25 : Nat) "SpillForgeModel$Reader" "goals" "[I") ∈ gw := gw_9 50 rfl rfl
theorem dr_cX14_goal_8 : decode cX14_goal 8 = .ok (.arraylength, 1) := by decide +kernel
theorem dr_cX14_goal_9 : decode cX14_goal 9 = .ok (.if_icmp .ne 37, 3) := by decide +kernel
theorem dr_cX14_goal_46 : decode cX14_goal 46 = .ok (.aload_n 0, 1) := by decide +kernel
theorem dr_cX14_goal_47 : decode cX14_goal 47 = .ok (.getfield 21, 3) := by decide +kernel
theorem wr_9_49 : (Jvm.Cond.fieldLink "SpillForgeModel$Reader" (21 : Nat) "SpillForgeModel$Reader" "goalPlaces" "[I") ∈ gw := gw_9 49 rfl rfl
theorem dr_cX14_goal_50 : decode cX14_goal 50 = .ok (.aload_n 0, 1) := by decide +kernel
theorem dr_cX14_goal_51 : decode cX14_goal 51 = .ok (.getfield 143, 3) := by decide +kernel
theorem dr_cX14_goal_54 : decode cX14_goal 54 = .ok (.aload_n 0, 1) := by decide +kernel
theorem dr_cX14_goal_55 : decode cX14_goal 55 = .ok (.getfield 47, 3) := by decide +kernel
theorem dr_cX14_goal_58 : decode cX14_goal 58 = .ok (.iastore, 1) := by decide +kernel
theorem dr_cX14_goal_59 : decode cX14_goal 59 = .ok (.aload_n 0, 1) := by decide +kernel
theorem dr_cX14_goal_60 : decode cX14_goal 60 = .ok (.iconst 3, 1) := by decide +kernel
theorem dr_cX14_goal_61 : decode cX14_goal 61 = .ok (.invokevirtual 152, 3) := by decide +kernel
theorem wr_9_93 : (Jvm.Cond.methodLink "SpillForgeModel$Reader" (152 : Nat) ({ cls := "SpillForgeModel$Reader", name := "want", desc := "(I)I" } : Jvm.MethodName)) ∈ gw := gw_9 93 rfl rfl
theorem wr_9_96 : (Jvm.Cond.code ({ cls := "SpillForgeModel$Reader", name := "want", desc := "(I)I" } : Jvm.MethodName) prog_17_method_11_code (3 : Nat) (Option.some Jvm.ClassFile.FieldType.int)) ∈ gw := gw_9 96 rfl rfl
theorem wr_9_95 : (Jvm.Cond.instanceMethod ({ cls := "SpillForgeModel$Reader", name := "want", desc := "(I)I" } : Jvm.MethodName)) ∈ gw := gw_9 95 rfl rfl
theorem wr_p_80 : Cond.selects "SpillForgeModel$Reader" ⟨"SpillForgeModel$Reader", "want", "(I)I"⟩ ⟨"SpillForgeModel$Reader", "want", "(I)I"⟩ ∈ gw := gw_p _ 80 rfl rfl rfl
theorem dr_cX14_goal_64 : decode cX14_goal 64 = .ok (.istore_n 1, 1) := by decide +kernel
theorem dr_cX14_goal_65 : decode cX14_goal 65 = .ok (.aload_n 0, 1) := by decide +kernel
theorem dr_cX14_goal_66 : decode cX14_goal 66 = .ok (.getfield 25, 3) := by decide +kernel
theorem dr_cX14_goal_69 : decode cX14_goal 69 = .ok (.aload_n 0, 1) := by decide +kernel
theorem dr_cX14_goal_70 : decode cX14_goal 70 = .ok (.getfield 143, 3) := by decide +kernel
theorem dr_cX14_goal_73 : decode cX14_goal 73 = .ok (.iload_n 1, 1) := by decide +kernel
theorem dr_cX14_goal_74 : decode cX14_goal 74 = .ok (.iastore, 1) := by decide +kernel
theorem dr_cX14_goal_75 : decode cX14_goal 75 = .ok (.aload_n 0, 1) := by decide +kernel
theorem dr_cX14_goal_76 : decode cX14_goal 76 = .ok (.dup, 1) := by decide +kernel
theorem dr_cX14_goal_77 : decode cX14_goal 77 = .ok (.getfield 143, 3) := by decide +kernel
theorem dr_cX14_goal_80 : decode cX14_goal 80 = .ok (.iconst 1, 1) := by decide +kernel
theorem dr_cX14_goal_81 : decode cX14_goal 81 = .ok (.iadd, 1) := by decide +kernel
theorem dr_cX14_goal_82 : decode cX14_goal 82 = .ok (.putfield 143, 3) := by decide +kernel
theorem dr_cX14_goal_85 : decode cX14_goal 85 = .ok (.iload_n 1, 1) := by decide +kernel
theorem dr_cX14_goal_86 : decode cX14_goal 86 = .ok (.ireturn, 1) := by decide +kernel
theorem dr_cX14_goal_12 : decode cX14_goal 12 = .ok (.aload_n 0, 1) := by decide +kernel
theorem dr_cX14_goal_13 : decode cX14_goal 13 = .ok (.aload_n 0, 1) := by decide +kernel
theorem dr_cX14_goal_14 : decode cX14_goal 14 = .ok (.getfield 25, 3) := by decide +kernel
theorem dr_cX14_goal_17 : decode cX14_goal 17 = .ok (.iconst 2, 1) := by decide +kernel
theorem dr_cX14_goal_18 : decode cX14_goal 18 = .ok (.aload_n 0, 1) := by decide +kernel
theorem dr_cX14_goal_19 : decode cX14_goal 19 = .ok (.getfield 143, 3) := by decide +kernel
theorem dr_cX14_goal_22 : decode cX14_goal 22 = .ok (.imul, 1) := by decide +kernel
theorem dr_cX14_goal_23 : decode cX14_goal 23 = .ok (.invokestatic 146, 3) := by decide +kernel
theorem wr_10_114 : (Jvm.Cond.methodLink "SpillForgeModel$Reader" (146 : Nat) ({ cls := "java/util/Arrays", name := "copyOf", desc := "([II)[I" } : Jvm.MethodName)) ∈ gw := gw_10 114 rfl rfl
theorem wr_10_116 : (Jvm.Cond.code ({ cls := "java/util/Arrays", name := "copyOf", desc := "([II)[I" } : Jvm.MethodName) prog_44_method_123_code (3 : Nat) (Option.some (Jvm.ClassFile.FieldType.array Jvm.ClassFile.FieldType.int))) ∈ gw := gw_10 116 rfl rfl
theorem wr_10_115 : (Jvm.Cond.static ({ cls := "java/util/Arrays", name := "copyOf", desc := "([II)[I" } : Jvm.MethodName)) ∈ gw := gw_10 115 rfl rfl
theorem dr_cX14_goal_26 : decode cX14_goal 26 = .ok (.putfield 25, 3) := by decide +kernel
theorem dr_cX14_goal_29 : decode cX14_goal 29 = .ok (.aload_n 0, 1) := by decide +kernel
theorem dr_cX14_goal_30 : decode cX14_goal 30 = .ok (.aload_n 0, 1) := by decide +kernel
theorem dr_cX14_goal_31 : decode cX14_goal 31 = .ok (.getfield 21, 3) := by decide +kernel
theorem dr_cX14_goal_34 : decode cX14_goal 34 = .ok (.iconst 2, 1) := by decide +kernel
theorem dr_cX14_goal_35 : decode cX14_goal 35 = .ok (.aload_n 0, 1) := by decide +kernel
theorem dr_cX14_goal_36 : decode cX14_goal 36 = .ok (.getfield 143, 3) := by decide +kernel
theorem dr_cX14_goal_39 : decode cX14_goal 39 = .ok (.imul, 1) := by decide +kernel
theorem dr_cX14_goal_40 : decode cX14_goal 40 = .ok (.invokestatic 146, 3) := by decide +kernel
theorem dr_cX14_goal_43 : decode cX14_goal 43 = .ok (.putfield 21, 3) := by decide +kernel
theorem dr_cX14_row_0 : decode cX14_row 0 = .ok (.aload_n 0, 1) := by decide +kernel
theorem dr_cX14_row_1 : decode cX14_row 1 = .ok (.ldc 179, 2) := by decide +kernel
theorem dr_cX14_row_3 : decode cX14_row 3 = .ok (.invokevirtual 132, 3) := by decide +kernel
theorem dr_cX14_row_6 : decode cX14_row 6 = .ok (.ifCond .eq 20, 3) := by decide +kernel
theorem dr_cX14_row_26 : decode cX14_row 26 = .ok (.aload_n 1, 1) := by decide +kernel
theorem dr_cX14_row_27 : decode cX14_row 27 = .ok (.aload_n 0, 1) := by decide +kernel
theorem dr_cX14_row_28 : decode cX14_row 28 = .ok (.iconst 2, 1) := by decide +kernel
theorem dr_cX14_row_29 : decode cX14_row 29 = .ok (.invokevirtual 152, 3) := by decide +kernel
theorem dr_cX14_row_32 : decode cX14_row 32 = .ok (.putfield 227, 3) := by decide +kernel
theorem wr_9_183 : (Jvm.Cond.fieldLink "SpillForgeModel$Reader" (227 : Nat) "SpillForgeModel$Row" "t" "I") ∈ gw := gw_9 183 rfl rfl
theorem dr_cX14_row_35 : decode cX14_row 35 = .ok (.aload_n 0, 1) := by decide +kernel
theorem dr_cX14_row_36 : decode cX14_row 36 = .ok (.ldc 229, 2) := by decide +kernel
theorem dr_cX14_row_38 : decode cX14_row 38 = .ok (.invokevirtual 173, 3) := by decide +kernel
theorem wr_9_137 : (Jvm.Cond.methodLink "SpillForgeModel$Reader" (173 : Nat) ({ cls := "SpillForgeModel$Reader", name := "want", desc := "(Ljava/lang/String;)V" } : Jvm.MethodName)) ∈ gw := gw_9 137 rfl rfl
theorem wr_9_140 : (Jvm.Cond.code ({ cls := "SpillForgeModel$Reader", name := "want", desc := "(Ljava/lang/String;)V" } : Jvm.MethodName) prog_17_method_10_code (2 : Nat) (Option.none : Option Jvm.ClassFile.FieldType)) ∈ gw := gw_9 140 rfl rfl
theorem wr_9_139 : (Jvm.Cond.instanceMethod ({ cls := "SpillForgeModel$Reader", name := "want", desc := "(Ljava/lang/String;)V" } : Jvm.MethodName)) ∈ gw := gw_9 139 rfl rfl
theorem wr_p_83 : Cond.selects "SpillForgeModel$Reader" ⟨"SpillForgeModel$Reader", "want", "(Ljava/lang/String;)V"⟩ ⟨"SpillForgeModel$Reader", "want", "(Ljava/lang/String;)V"⟩ ∈ gw := gw_p _ 83 rfl rfl rfl
theorem dr_cX14_row_41 : decode cX14_row 41 = .ok (.aload_n 0, 1) := by decide +kernel
theorem dr_cX14_row_42 : decode cX14_row 42 = .ok (.ldc 231, 2) := by decide +kernel
theorem dr_cX14_row_44 : decode cX14_row 44 = .ok (.invokevirtual 132, 3) := by decide +kernel
theorem dr_cX14_row_47 : decode cX14_row 47 = .ok (.ifCond .eq 14, 3) := by decide +kernel
theorem dr_cX14_row_61 : decode cX14_row 61 = .ok (.aload_n 0, 1) := by decide +kernel
theorem dr_cX14_row_62 : decode cX14_row 62 = .ok (.aload_n 1, 1) := by decide +kernel
theorem dr_cX14_row_63 : decode cX14_row 63 = .ok (.iconst 0, 1) := by decide +kernel
theorem dr_cX14_row_64 : decode cX14_row 64 = .ok (.invokevirtual 223, 3) := by decide +kernel
theorem wr_10_89 : (Jvm.Cond.methodLink "SpillForgeModel$Reader" (223 : Nat) ({ cls := "SpillForgeModel$Reader", name := "operand", desc := "(LSpillForgeModel$Row;Z)V" } : Jvm.MethodName)) ∈ gw := gw_10 89 rfl rfl
theorem wr_10_92 : (Jvm.Cond.code ({ cls := "SpillForgeModel$Reader", name := "operand", desc := "(LSpillForgeModel$Row;Z)V" } : Jvm.MethodName) prog_17_method_16_code (4 : Nat) (Option.none : Option Jvm.ClassFile.FieldType)) ∈ gw := gw_10 92 rfl rfl
theorem wr_10_91 : (Jvm.Cond.instanceMethod ({ cls := "SpillForgeModel$Reader", name := "operand", desc := "(LSpillForgeModel$Row;Z)V" } : Jvm.MethodName)) ∈ gw := gw_10 91 rfl rfl
theorem wr_p_89 : Cond.selects "SpillForgeModel$Reader" ⟨"SpillForgeModel$Reader", "operand", "(LSpillForgeModel$Row;Z)V"⟩ ⟨"SpillForgeModel$Reader", "operand", "(LSpillForgeModel$Row;Z)V"⟩ ∈ gw := gw_p _ 89 rfl rfl rfl
theorem dr_cX14_row_67 : decode cX14_row 67 = .ok (.aload_n 1, 1) := by decide +kernel
theorem dr_cX14_row_68 : decode cX14_row 68 = .ok (.aload_n 0, 1) := by decide +kernel
theorem dr_cX14_row_69 : decode cX14_row 69 = .ok (.getfield 38, 3) := by decide +kernel
theorem dr_cX14_row_72 : decode cX14_row 72 = .ok (.iconst 5, 1) := by decide +kernel
theorem dr_cX14_row_73 : decode cX14_row 73 = .ok (.if_icmp .ne 13, 3) := by decide +kernel
theorem dr_cX14_row_86 : decode cX14_row 86 = .ok (.iconst 0, 1) := by decide +kernel
theorem dr_cX14_row_87 : decode cX14_row 87 = .ok (.putfield 220, 3) := by decide +kernel
theorem wr_9_179 : (Jvm.Cond.fieldLink "SpillForgeModel$Reader" (220 : Nat) "SpillForgeModel$Row" "op" "I") ∈ gw := gw_9 179 rfl rfl
theorem dr_cX14_row_90 : decode cX14_row 90 = .ok (.aload_n 1, 1) := by decide +kernel
theorem dr_cX14_row_91 : decode cX14_row 91 = .ok (.getfield 220, 3) := by decide +kernel
theorem dr_cX14_row_94 : decode cX14_row 94 = .ok (.ifCond .ne 4, 3) := by decide +kernel
theorem dr_cX14_row_97 : decode cX14_row 97 = .ok (.return_, 1) := by decide +kernel
theorem dr_cX14_row_76 : decode cX14_row 76 = .ok (.aload_n 0, 1) := by decide +kernel
theorem dr_cX14_row_77 : decode cX14_row 77 = .ok (.getfield 11, 3) := by decide +kernel
theorem dr_cX14_row_80 : decode cX14_row 80 = .ok (.invokestatic 233, 3) := by decide +kernel
theorem wr_10_97 : (Jvm.Cond.code ({ cls := "SpillForgeModel", name := "operation", desc := "(Ljava/lang/String;)I" } : Jvm.MethodName) prog_14_method_1_code (4 : Nat) (Option.some Jvm.ClassFile.FieldType.int)) ∈ gw := gw_10 97 rfl rfl
theorem wr_10_96 : (Jvm.Cond.static ({ cls := "SpillForgeModel", name := "operation", desc := "(Ljava/lang/String;)I" } : Jvm.MethodName)) ∈ gw := gw_10 96 rfl rfl
theorem dr_cX14_row_83 : decode cX14_row 83 = .ok (.goto 4, 3) := by decide +kernel
theorem dr_cX14_row_98 : decode cX14_row 98 = .ok (.aload_n 0, 1) := by decide +kernel
theorem dr_cX14_row_99 : decode cX14_row 99 = .ok (.invokevirtual 35, 3) := by decide +kernel
theorem dr_cX14_row_102 : decode cX14_row 102 = .ok (.aload_n 0, 1) := by decide +kernel
theorem dr_cX14_row_103 : decode cX14_row 103 = .ok (.aload_n 1, 1) := by decide +kernel
theorem dr_cX14_row_104 : decode cX14_row 104 = .ok (.iconst 1, 1) := by decide +kernel
theorem dr_cX14_row_105 : decode cX14_row 105 = .ok (.invokevirtual 223, 3) := by decide +kernel
theorem dr_cX14_row_108 : decode cX14_row 108 = .ok (.return_, 1) := by decide +kernel
theorem dr_cX14_row_50 : decode cX14_row 50 = .ok (.aload_n 0, 1) := by decide +kernel
theorem dr_cX14_row_51 : decode cX14_row 51 = .ok (.invokevirtual 35, 3) := by decide +kernel
theorem dr_cX14_row_54 : decode cX14_row 54 = .ok (.aload_n 1, 1) := by decide +kernel
theorem dr_cX14_row_55 : decode cX14_row 55 = .ok (.bipush 20, 2) := by decide +kernel
theorem dr_cX14_row_57 : decode cX14_row 57 = .ok (.putfield 220, 3) := by decide +kernel
theorem dr_cX14_row_60 : decode cX14_row 60 = .ok (.return_, 1) := by decide +kernel
theorem dr_cX14_row_9 : decode cX14_row 9 = .ok (.aload_n 0, 1) := by decide +kernel
theorem dr_cX14_row_10 : decode cX14_row 10 = .ok (.invokevirtual 35, 3) := by decide +kernel
theorem dr_cX14_row_13 : decode cX14_row 13 = .ok (.aload_n 1, 1) := by decide +kernel
theorem dr_cX14_row_14 : decode cX14_row 14 = .ok (.bipush 22, 2) := by decide +kernel
theorem dr_cX14_row_16 : decode cX14_row 16 = .ok (.putfield 220, 3) := by decide +kernel
theorem dr_cX14_row_19 : decode cX14_row 19 = .ok (.aload_n 0, 1) := by decide +kernel
theorem dr_cX14_row_20 : decode cX14_row 20 = .ok (.aload_n 1, 1) := by decide +kernel
theorem dr_cX14_row_21 : decode cX14_row 21 = .ok (.iconst 0, 1) := by decide +kernel
theorem dr_cX14_row_22 : decode cX14_row 22 = .ok (.invokevirtual 223, 3) := by decide +kernel
theorem dr_cX14_row_25 : decode cX14_row 25 = .ok (.return_, 1) := by decide +kernel
abbrev ky_672352_Arrays_copyOf : gKey := (cJ7_copyOf_59c91, 3, "java/util/Arrays", (some (FieldType.array FieldType.int)), [], "copyOf", fun _ _ => True)
def pp_672352_Arrays_copyOf (D : va_G) (I : FieldType → ClassId) (P672344 : List Nat) (F672345 : Nat → va_E) (q672346 : Nat) (p672347 : Int32) (f672348 : Nat → Int32) (n672349 : Nat) : Option Value → va_W → Nat → Nat → Prop := fun r w dc ds => ∃ (P672382 : List Nat) (F672383 : Nat → va_E) (q672380 : Nat) (f672381 : Nat → Int32), r = some (.ref q672380) ∧ w = va_pl P672382 F672383 ∧ rSub P672344 P672382 ∧ rFr [] P672344 F672345 F672383 ∧ F672383 q672346 = .inl (I .int, n672349, .inl f672348) ∧ F672383 q672380 = .inl (I .int, p672347.toInt.toNat, .inl f672381) ∧ q672380 ∈ P672382 ∧ q672380 ∉ P672344 ∧ dc ≤ 1 ∧ ds ≤ p672347.toInt.toNat ∧ (p672347.toInt.toNat : Int) = p672347.toInt ∧ glC f672348 f672381 (n672349 : Int) ∧ glB f672348 f672381 ∧ tr_RArrays_copyOf4 p672347 f672348 n672349 f672381
set_option maxRecDepth 100000 in
set_option maxHeartbeats 4000000 in
theorem cp_672352_Arrays_copyOf (l : Launch) (hl0 : l.stackTraces = false) (D : va_G) (I : FieldType → ClassId) (P672344 : List Nat) (F672345 : Nat → va_E) (q672346 : Nat) (p672347 : Int32) (f672348 : Nat → Int32) (n672349 : Nat) (hmq672346 : q672346 ∈ P672344) (heq672346 : F672345 q672346 = .inl (I .int, n672349, .inl f672348)) (bp672347 : gB p672347 32 32768) (x672350 : (n672349 : Int) < p672347.toInt) (x672351 : ((n672349 : Int) ≤ 16777216)) : CtA (gV D I) l yJ7_copyOf_59c91 cJ7_copyOf_59c91 3 (some (FieldType.array FieldType.int)) 1 18 1 p672347.toInt.toNat [.ref q672346, .int p672347] (va_pl P672344 F672345) (pp_672352_Arrays_copyOf D I P672344 F672345 q672346 p672347 f672348 n672349) gNA := by
  refine CtA_ofF hl0 (by decide +kernel) (Nat.le_of_ble_eq_true rfl) ?_
  refine G_iload_n 1 dr_cJ7_copyOf_59c91_0 rfl ?_
  refine G_aload_n 0 dr_cJ7_copyOf_59c91_1 rfl ?_
  refine Gp_alen (Int32.ofNat n672349) 0 hmq672346 heq672346 dr_cJ7_copyOf_59c91_2 rfl rfl (G_nam fun z672353 hz672353 => ?_)
  have ez672353 : z672353.toInt = (n672349 : Nat) := gI_ofM hz672353 (by omega)
  have bz672353 : gB z672353 0 16777216 := ⟨by omega, by omega⟩
  refine G_icmp_ne 14 dr_cJ7_copyOf_59c91_3 (by decide +kernel) (fun hc672354 => ?_) (fun hc => absurd (show False by have := gC_eq hc; omega) not_false)
  have r672356 : p672347.toInt ≠ z672353.toInt := gC_ne hc672354
  refine G_iload_n 1 dr_cJ7_copyOf_59c91_14 rfl ?_
  refine G_newa 0 (p672347.toInt.toNat, .inl (fun _ => 0)) dr_cJ7_copyOf_59c91_15 rfl rfl (by intro C h; cases h) wr_1_95 (fun _ => ga_int _ _) (g_n0 (by omega)) rfl (show p672347.toInt.toNat * 4 ≤ 536870912 by omega) (show 0 + 1 ≤ 1 by first | omega | decide) (show 0 + p672347.toInt.toNat ≤ p672347.toInt.toNat by first | omega | decide) (fun q672357 => Gp_in (fun P672358 F672359 hq672360 hP672361 e672362 n672363 => ?_))
  refine G_widen (cs' := 1) (sl' := p672347.toInt.toNat) (by omega) (by omega) ?_
  have he672364 : F672359 q672346 = .inl (I .int, n672349, .inl f672348) := (n672363 q672346 (fun h => hq672360 (h ▸ hmq672346))).trans heq672346
  have he672365 : F672359 q672357 = .inl (I .int, p672347.toInt.toNat, .inl (fun _ => 0)) := e672362
  have hm672366 : q672346 ∈ P672358 := (hP672361 q672346).mpr (Or.inl hmq672346)
  have hm672367 : q672357 ∈ P672358 := (hP672361 q672357).mpr (Or.inr rfl)
  have hq672368 : q672357 ∉ P672344 := fun z => hq672360 ((rSub_rf (P := P672344)) q672357 z)
  have hfr672369 : rFr [] P672344 F672345 F672359 := rFr_new (rSub_rf (P := P672344)) hq672360 (rFr_rf (W := []) (P := P672344) (F := F672345)) n672363
  have hsb672370 : rSub P672344 P672358 := rSub_new (rSub_rf (P := P672344)) hP672361
  refine G_astore_n (L' := [(2, .ref q672357), (0, .ref q672346), (1, .int p672347)]) dr_cJ7_copyOf_59c91_17 (Nat.le_of_ble_eq_true rfl) rfl ?_
  refine G_aload_n 1 dr_cJ7_copyOf_59c91_18 rfl ?_
  refine G_iconst 0 dr_cJ7_copyOf_59c91_19 (by decide +kernel) ?_
  refine G_aload_n 0 dr_cJ7_copyOf_59c91_20 rfl ?_
  refine G_iconst 0 dr_cJ7_copyOf_59c91_21 (by decide +kernel) ?_
  refine G_aload_n 1 dr_cJ7_copyOf_59c91_22 rfl ?_
  refine Gp_alen (Int32.ofNat n672349) 0 hm672366 he672364 dr_cJ7_copyOf_59c91_23 rfl rfl (G_nam fun z672371 hz672371 => ?_)
  have ez672371 : z672371.toInt = (n672349 : Nat) := gI_ofM hz672371 (by omega)
  have bz672371 : gB z672371 0 16777216 := ⟨by omega, by omega⟩
  refine G_iload_n 2 dr_cJ7_copyOf_59c91_24 rfl ?_
  refine G_mmin dr_cJ7_copyOf_59c91_25 wr_8_31 wr_3_227 wr_1_6 wr_3_228 (Nat.le_of_ble_eq_true rfl) (Nat.le_of_ble_eq_true rfl) (show 1 ≤ 1 by first | omega | decide) (show p672347.toInt.toNat ≤ p672347.toInt.toNat by first | omega | decide) (G_nam fun z672372 hz672372 => ?_)
  have ez672372 : z672371.toInt ≥ z672372.toInt ∧ p672347.toInt ≥ z672372.toInt ∧ (z672372.toInt = z672371.toInt ∨ z672372.toInt = p672347.toInt) := by have := gI_min hz672372; omega
  have bz672372 : gB z672372 0 32768 := ⟨by omega, by omega⟩
  refine Gp_copyp 0 hm672366 hm672367 he672364 he672365 dr_cJ7_copyOf_59c91_28 wr_8_32 wr_5_113 wr_5_112 wr_1_34 rfl rfl (fun _ => rfl) (by decide) (by decide) (by omega) (by have qa0 : Int32.toInt 0 = 0 := (by decide); omega) (by have qa0 : Int32.toInt 0 = 0 := (by decide); omega) (Nat.le_of_ble_eq_true rfl) (Nat.le_of_ble_eq_true rfl) (fun F672373 e672374 n672375 => ?_)
  obtain ⟨f672376, hf672376⟩ : ∃ z, z = va_cpy f672348 (fun _ => 0) (0 : Int32).toNatClampNeg (0 : Int32).toNatClampNeg z672372.toNatClampNeg := ⟨_, rfl⟩
  rw [← hf672376] at e672374
  have he672377 : F672373 q672346 = .inl (I .int, n672349, .inl f672348) := (n672375 q672346 (fun h => hq672368 (h ▸ hmq672346))).trans he672364
  have he672378 : F672373 q672357 = .inl (I .int, p672347.toInt.toNat, .inl f672376) := e672374
  have hfr672379 : rFr [] P672344 F672345 F672373 := rFr_newp hq672368 hfr672369 n672375
  refine G_aload_n 0 dr_cJ7_copyOf_59c91_31 rfl ?_
  exact G_aretA (FieldType.array FieldType.int) dr_cJ7_copyOf_59c91_32 rfl (by first | exact Or.inl ⟨_, rfl⟩ | exact Or.inr ⟨_, rfl⟩) (Or.inr ⟨_, rfl⟩) (Nat.le_of_ble_eq_true rfl) (show p672347.toInt.toNat ≤ p672347.toInt.toNat by omega) ⟨P672358, F672373, q672357, f672376, rfl, rfl, hsb672370, hfr672379, he672377, he672378, hm672367, hq672368, (Nat.le_of_ble_eq_true rfl), (by omega), (by omega), (glC_cpy hf672376 (by decide) (by decide) (by omega)), (glB_cpy hf672376), (fun R c1 => c1 z672353 z672371 z672372 f672376 ez672353 r672356 ez672371 ez672372 hf672376)⟩
/- tr_RReader_goal: a.0...at, a.0...kind, a.0...place, a.0...value, a.0...goalN, a.0.goalPlaces.#, a.0.goalPlaces.[], a.0.goals.#, a.0.goals.[] -/
def tr_RReader_goal (a0_n : Int32) (a0_at : Int32) (a0_kind : Int32) (a0_place : Int32) (a0_value : Int32) (a0_goalN : Int32) (a0_t_v : Nat → Int32) (p : Nat → Int32) (p2 : Nat) (p3 : Nat → Int32) (p4 : Nat) (o1 : Int32) (o2 : Int32) (o3 : Int32) (o4 : Int32) (o5 : Int32) (o6 : Nat) (o7 : Nat → Int32) (o8 : Nat) (o9 : Nat → Int32) (o10 : gTx) : Prop := ∀ R : (Int32) → (Int32) → (Int32) → (Int32) → (Int32) → (Nat) → (Nat → Int32) → (Nat) → (Nat → Int32) → (gTx) → Prop,
  (∀ (x1 : Int32) (x2 : Nat → Int32) (x3 : gTx) (x4 : Int32) (x5 : Int32) (x6 : Int32) (x7 : Int32) (x8 : Nat → Int32) (x9 : Int32), x1.toInt = (p4 : Nat) → a0_goalN.toInt ≠ x1.toInt → x2 = upd p a0_goalN.toNatClampNeg a0_place → gB x4 0 8192 → gB x5 0 6 → gB x6 0 8192 → tr_RReader_want2 (3 : Int32) a0_n a0_at a0_kind a0_value a0_t_v x4 x5 x6 x7 x3 → x8 = upd p3 a0_goalN.toNatClampNeg a0_value → x9.toInt = a0_goalN.toInt + 1 → R x4 x5 x6 x7 x9 p2 x2 p4 x8 x3) →
  (∀ (x1 : Int32) (x2 : Int32) (x3 : Nat → Int32) (x4 : Int32) (x5 : Nat → Int32) (x6 : Nat → Int32) (x7 : gTx) (x8 : Int32) (x9 : Int32) (x10 : Int32) (x11 : Int32) (x12 : Nat → Int32) (x13 : Int32), x1.toInt = (p4 : Nat) → a0_goalN.toInt = x1.toInt → x2.toInt = 2 * a0_goalN.toInt → tr_RArrays_copyOf4 x2 p3 p4 x3 → x4.toInt = 2 * a0_goalN.toInt → tr_RArrays_copyOf4 x4 p p2 x5 → x6 = upd x5 a0_goalN.toNatClampNeg a0_place → gB x8 0 8192 → gB x9 0 6 → gB x10 0 8192 → tr_RReader_want2 (3 : Int32) a0_n a0_at a0_kind a0_value a0_t_v x8 x9 x10 x11 x7 → x12 = upd x3 a0_goalN.toNatClampNeg a0_value → x13.toInt = a0_goalN.toInt + 1 → R x8 x9 x10 x11 x13 x4.toInt.toNat x6 x2.toInt.toNat x12 x7) →
  R o1 o2 o3 o4 o5 o6 o7 o8 o9 o10
/- tx_RReader_goal: throws -/
def tx_RReader_goal (a0_kind : Int32) (a0_goalN : Int32) (p : Nat → Int32) (p2 : Nat) (p3 : Nat → Int32) (p4 : Nat) : Prop := ∀ R : Prop,
  (∀ (x1 : Int32), x1.toInt = (p4 : Nat) → a0_goalN.toInt ≠ x1.toInt → tx_RReader_want2 (3 : Int32) a0_kind → R) →
  (∀ (x1 : Int32) (x2 : Int32) (x3 : Nat → Int32) (x4 : Int32) (x5 : Nat → Int32), x1.toInt = (p4 : Nat) → a0_goalN.toInt = x1.toInt → x2.toInt = 2 * a0_goalN.toInt → tr_RArrays_copyOf4 x2 p3 p4 x3 → x4.toInt = 2 * a0_goalN.toInt → tr_RArrays_copyOf4 x4 p p2 x5 → tx_RReader_want2 (3 : Int32) a0_kind → R) →
  R
abbrev ky_672262_Reader_goal : gKey := (cX14_goal, 2, "SpillForgeModel$Reader", (some FieldType.int), [], "goal", fun _ _ => True)
def pp_672262_Reader_goal (D : va_G) (I : FieldType → ClassId) (P672228 : List Nat) (F672229 : Nat → va_E) (q672230 : Nat) (q672231 : Nat) (q672232 : Nat) (q672233 : Nat) (p672234 : Int32) (p672235 : Int32) (p672236 : Int32) (p672237 : Int32) (p672238 : Int32) (p672239 : Int32) (qo672240 : Nat) (p672241 : Int32) (p672242 : Int32) (p672243 : Int32) (p672244 : Int32) (f672245 : Nat → Int32) (f672246 : Nat → Int32) (n672247 : Nat) (f672248 : Nat → Int32) (n672249 : Nat) (xt672250 : gTx) : Option Value → va_W → Nat → Nat → Prop := fun r w dc ds => ∃ (P672595 : List Nat) (F672596 : Nat → va_E) (o672583 : Int32) (o672584 : Int32) (o672585 : Int32) (o672586 : Int32) (q672587 : Nat) (o672588 : Int32) (q672589 : Nat) (n672590 : Nat) (f672591 : Nat → Int32) (q672592 : Nat) (n672593 : Nat) (f672594 : Nat → Int32) (xt672597 : gTx), r = some (.int p672238) ∧ w = va_pl P672595 F672596 ∧ rSub P672228 P672595 ∧ rFr [q672233, q672232, q672230] P672228 F672229 F672596 ∧ F672596 q672589 = .inl (I .int, n672590, .inl f672591) ∧ F672596 q672592 = .inl (I .int, n672593, .inl f672594) ∧ F672596 q672230 = .inr (19, [.ref q672231, .int p672234, .int o672583, .int o672584, .int o672585, .int o672586, .int p672236, .ref q672587, .int p672241, .int p672242, .int p672243, .ref q672589, .ref q672592, .int o672588]) ∧ F672596 q672231 = .inl (I .byte, 8192, .inl f672245) ∧ q672589 ∈ P672595 ∧ (q672589 = q672232 ∨ q672589 ∉ P672228) ∧ q672592 ∈ P672595 ∧ (q672592 = q672233 ∨ q672592 ∉ P672228) ∧ dc ≤ (16 * (o672583.toInt - p672235.toInt)).toNat + 2 ∧ ds ≤ (160 * (o672583.toInt - p672235.toInt)).toNat + 4 * (n672593 - n672249) ∧ gB o672583 0 8192 ∧ gB o672584 0 6 ∧ gB o672585 0 8192 ∧ gB o672588 1 1000000 ∧ p672235.toInt ≤ o672583.toInt ∧ prP o672584 p672235 o672583 ∧ o672583.toInt ≤ p672234.toInt ∧ tP I P672595 F672596 o672584 q672587 q672592 q672589 xt672597 ∧ vP o672584 o672586 ∧ vP 3 p672238 ∧ p672236.toInt = 3 ∧ (n672593 : Int) ≤ 2 * (n672249 : Int) ∧ q672592 ≠ q672589 ∧ glC f672248 f672594 p672244.toInt ∧ glL f672594 p672244 p672238 ∧ glP f672591 ∧ (n672593 : Int) = (n672590 : Int) ∧ o672588.toInt = p672244.toInt + 1 ∧ o672588.toInt ≤ (n672593 : Int) ∧ 16 ≤ (n672593 : Int) ∧ (n672593 : Int) ≤ 2 * o672588.toInt + 16 ∧ (n672249 : Int) ≤ (n672593 : Int) ∧ tr_RReader_goal p672234 p672235 p672236 p672237 p672238 p672244 f672245 f672246 n672247 f672248 n672249 o672583 o672584 o672585 o672586 o672588 n672590 f672591 n672593 f672594 xt672597
def xp_672262_Reader_goal (D : va_G) (I : FieldType → ClassId) (P672228 : List Nat) (F672229 : Nat → va_E) (q672230 : Nat) (q672231 : Nat) (q672232 : Nat) (q672233 : Nat) (p672234 : Int32) (p672235 : Int32) (p672236 : Int32) (p672237 : Int32) (p672238 : Int32) (p672239 : Int32) (qo672240 : Nat) (p672241 : Int32) (p672242 : Int32) (p672243 : Int32) (p672244 : Int32) (f672245 : Nat → Int32) (f672246 : Nat → Int32) (n672247 : Nat) (f672248 : Nat → Int32) (n672249 : Nat) (xt672250 : gTx) : String → Nat → va_W → Nat → Nat → Prop := fun E q w dc ds => ∃ (P672599 : List Nat) (F672598 : Nat → va_E), E = "SpillForgeModel$Wrong" ∧ w = va_pl P672599 F672598 ∧ rSub P672228 P672599 ∧ rFr [q672232, q672230] P672228 F672229 F672598 ∧ q ∈ P672599 ∧ q ∉ P672228 ∧ wrF F672598 q ∧ dc ≤ (16 * (p672234.toInt - p672235.toInt)).toNat + 3 ∧ ds ≤ (160 * (p672234.toInt - p672235.toInt)).toNat + 4 * n672249 + 7 ∧ tx_RReader_goal p672236 p672244 f672246 n672247 f672248 n672249
set_option maxRecDepth 100000 in
set_option maxHeartbeats 4000000 in
theorem cp_672262_Reader_goal (l : Launch) (hl0 : l.stackTraces = false) (D : va_G) (I : FieldType → ClassId) (P672228 : List Nat) (F672229 : Nat → va_E) (q672230 : Nat) (q672231 : Nat) (q672232 : Nat) (q672233 : Nat) (p672234 : Int32) (p672235 : Int32) (p672236 : Int32) (p672237 : Int32) (p672238 : Int32) (p672239 : Int32) (qo672240 : Nat) (p672241 : Int32) (p672242 : Int32) (p672243 : Int32) (p672244 : Int32) (f672245 : Nat → Int32) (f672246 : Nat → Int32) (n672247 : Nat) (f672248 : Nat → Int32) (n672249 : Nat) (xt672250 : gTx) (hmq672230 : q672230 ∈ P672228) (hmq672231 : q672231 ∈ P672228) (hmq672232 : q672232 ∈ P672228) (hmq672233 : q672233 ∈ P672228) (heq672230 : F672229 q672230 = .inr (19, [.ref q672231, .int p672234, .int p672235, .int p672236, .int p672237, .int p672238, .int p672239, .ref qo672240, .int p672241, .int p672242, .int p672243, .ref q672232, .ref q672233, .int p672244])) (heq672231 : F672229 q672231 = .inl (I .byte, 8192, .inl f672245)) (heq672232 : F672229 q672232 = .inl (I .int, n672247, .inl f672246)) (heq672233 : F672229 q672233 = .inl (I .int, n672249, .inl f672248)) (hneq672231q672232 : q672231 ≠ q672232) (hneq672231q672233 : q672231 ≠ q672233) (hneq672232q672233 : q672232 ≠ q672233) (bp672234 : gB p672234 0 8192) (bp672235 : gB p672235 0 8192) (bp672236 : gB p672236 0 6) (bp672237 : gB p672237 0 8192) (bp672239 : gB p672239 0 6) (bp672241 : gB p672241 (-1) 8192) (bp672242 : gB p672242 0 4) (bp672243 : gB p672243 0 1000000) (bp672244 : gB p672244 0 1000000) (bf672245 : gF f672245 (-128) 127) (x672251 : p672235.toInt ≤ p672234.toInt) (x672252 : tP I P672228 F672229 p672236 qo672240 q672233 q672232 xt672250) (x672253 : vP p672236 p672238) (x672254 : (n672249 : Int) = (n672247 : Int)) (x672255 : p672244.toInt ≤ (n672249 : Int)) (x672256 : 16 ≤ (n672249 : Int)) (x672257 : (n672249 : Int) ≤ 2 * p672244.toInt + 16) (x672258 : p672244.toInt ≤ 16000) (x672259 : glP f672246) (x672260 : ((n672247 : Int) ≤ 16777216)) (x672261 : ((n672249 : Int) ≤ 16777216)) : CtA (gV D I) l yX14_goal cX14_goal 2 (some FieldType.int) 9 199 ((16 * (p672234.toInt - p672235.toInt)).toNat + 3) ((160 * (p672234.toInt - p672235.toInt)).toNat + 4 * n672249 + 7) [.ref q672230] (va_pl P672228 F672229) (pp_672262_Reader_goal D I P672228 F672229 q672230 q672231 q672232 q672233 p672234 p672235 p672236 p672237 p672238 p672239 qo672240 p672241 p672242 p672243 p672244 f672245 f672246 n672247 f672248 n672249 xt672250) (xp_672262_Reader_goal D I P672228 F672229 q672230 q672231 q672232 q672233 p672234 p672235 p672236 p672237 p672238 p672239 qo672240 p672241 p672242 p672243 p672244 f672245 f672246 n672247 f672248 n672249 xt672250) := by
  refine CtA_of hl0 (by decide) (Nat.le_of_ble_eq_true rfl) ?_
  have bp672238 := gB_any p672238
  refine G_aload_n 0 dr_cX14_goal_0 rfl ?_
  refine Gp_get 13 hmq672230 heq672230 dr_cX14_goal_1 (gk_X14 D I) (Nat.le_of_ble_eq_true rfl) wr_9_51 rfl ?_
  refine G_aload_n 0 dr_cX14_goal_4 rfl ?_
  refine Gp_get 12 hmq672230 heq672230 dr_cX14_goal_5 (gk_X14 D I) (Nat.le_of_ble_eq_true rfl) wr_9_50 rfl ?_
  refine Gp_alen (Int32.ofNat n672249) 0 hmq672233 heq672233 dr_cX14_goal_8 rfl rfl (G_nam fun z672263 hz672263 => ?_)
  have ez672263 : z672263.toInt = (n672249 : Nat) := gI_ofM hz672263 (by omega)
  have bz672263 : gB z672263 0 16777216 := ⟨by omega, by omega⟩
  refine G_icmp_ne 46 dr_cX14_goal_9 (by decide +kernel) (fun hc672264 => ?_) (fun hc672264 => ?_)
  · have r672265 : p672244.toInt ≠ z672263.toInt := gC_ne hc672264
    refine G_aload_n 0 dr_cX14_goal_46 rfl ?_
    refine Gp_get 11 hmq672230 heq672230 dr_cX14_goal_47 (gk_X14 D I) (Nat.le_of_ble_eq_true rfl) wr_9_49 rfl ?_
    refine G_aload_n 0 dr_cX14_goal_50 rfl ?_
    refine Gp_get 13 hmq672230 heq672230 dr_cX14_goal_51 (gk_X14 D I) (Nat.le_of_ble_eq_true rfl) wr_9_51 rfl ?_
    refine G_aload_n 0 dr_cX14_goal_54 rfl ?_
    refine Gp_get 4 hmq672230 heq672230 dr_cX14_goal_55 (gk_X14 D I) (Nat.le_of_ble_eq_true rfl) wr_9_40 rfl ?_
    refine Gp_iast 0 hmq672232 heq672232 dr_cX14_goal_58 rfl (gB_inr (by omega) (by omega)) (fun F672266 e672267 n672268 => ?_)
    obtain ⟨f672269, hf672269⟩ : ∃ z, z = upd f672246 p672244.toNatClampNeg p672237 := ⟨_, rfl⟩
    rw [← hf672269] at e672267
    have he672270 : F672266 q672230 = .inr (19, [.ref q672231, .int p672234, .int p672235, .int p672236, .int p672237, .int p672238, .int p672239, .ref qo672240, .int p672241, .int p672242, .int p672243, .ref q672232, .ref q672233, .int p672244]) := (n672268 q672230 (rn_oa heq672230 heq672232)).trans heq672230
    have he672271 : F672266 q672231 = .inl (I .byte, 8192, .inl f672245) := (n672268 q672231 hneq672231q672232).trans heq672231
    have he672272 : F672266 q672233 = .inl (I .int, n672249, .inl f672248) := (n672268 q672233 (Ne.symm hneq672232q672233)).trans heq672233
    have he672273 : F672266 q672232 = .inl (I .int, n672247, .inl f672269) := e672267
    have hfr672274 : rFr [q672232] P672228 F672229 F672266 := rFr_put (rFr_rf (W := []) (P := P672228) (F := F672229)) n672268
    have tp672275 : tP I P672228 F672266 p672236 qo672240 q672233 q672232 xt672250 := tP_pa x672252 heq672232 (Or.inr rfl) n672268
    refine G_aload_n 0 dr_cX14_goal_59 rfl ?_
    refine G_iconst 3 dr_cX14_goal_60 (by decide +kernel) ?_
    refine Gw_callV (As := [.int 3]) (gV_ok D I) (cp_671460_Reader_want l hl0 D I P672228 F672266 q672230 q672231 3 p672234 p672235 p672236 p672237 p672238 p672239 qo672240 p672241 p672242 p672243 q672232 q672233 p672244 f672245 xt672250 hmq672230 hmq672231 he672270 he672271 (gB_w (gBl (show Int32.toInt 3 = 3 by decide)) (by decide) (by decide)) bp672234 bp672235 bp672236 bp672237 bp672239 bp672241 bp672242 bp672243 bp672244 bf672245 (by omega) hmq672233 hmq672232 tp672275 x672253) dr_cX14_goal_61 ⟨wr_9_93, wr_1_32, wr_9_96, by decide, rfl, (Nat.le_of_ble_eq_true rfl), (Nat.le_of_ble_eq_true rfl)⟩ wr_9_95 wr_p_80 hmq672230 he672270 rfl (show 0 + ((16 * (p672234.toInt - p672235.toInt)).toNat + 1) ≤ ((16 * (p672234.toInt - p672235.toInt)).toNat + 3) by first | omega | decide) (show 0 + ((160 * (p672234.toInt - p672235.toInt)).toNat + 7) ≤ ((160 * (p672234.toInt - p672235.toInt)).toNat + 4 * n672249 + 7) by first | omega | decide) (Nat.le_of_ble_eq_true rfl) (fun r672279 w672280 dc672276 ds672277 hp672278 => ?_) (fun _ qx672292 _ dc672290 ds672291 hx => by obtain ⟨P672288, F672289, rfl, rfl, hsb672281, hfr672282, hq672283, hqn672284, hwr672285, hdc672286, hds672287, ht672293⟩ := hx; exact GT_outA rfl (show 0 + dc672290 ≤ ((16 * (p672234.toInt - p672235.toInt)).toNat + 3) by omega) (show 0 + ds672291 ≤ ((160 * (p672234.toInt - p672235.toInt)).toNat + 4 * n672249 + 7) by omega) ⟨P672288, F672289, rfl, rfl, (rSub_tr (rSub_rf (P := P672228)) hsb672281), (rFr_v (show rFr [q672232] P672228 F672229 F672289 from rFr_call (rSub_rf (P := P672228)) hfr672274 hfr672282 (fun b hb hn => ⟨(nm_c (fun e => hn (e ▸ List.mem_cons_self)) nm_n), nm_n⟩)) (fun b hn => (nm_c (fun e => hn (e ▸ List.mem_cons_self)) nm_n))), hq672283, (fun z => hqn672284 ((rSub_rf (P := P672228)) _ z)), hwr672285, (by omega), (by omega), (fun R c1 c2 => c1 z672263 ez672263 r672265 ht672293)⟩)
    obtain ⟨P672308, F672309, o672294, o672295, o672296, o672297, q672298, xt672307, rfl, rfl, hsb672310, hfr672311, he672312, he672313, hdc, hds, bo672294, bo672295, bo672296, x672299, x672300, x672301, x672302, x672303, x672304, x672305, ht672306⟩ := hp672278
    have hm672314 : q672230 ∈ P672308 := hsb672310 q672230 hmq672230
    have hm672315 : q672231 ∈ P672308 := hsb672310 q672231 hmq672231
    have hm672316 : q672232 ∈ P672308 := hsb672310 q672232 hmq672232
    have hm672317 : q672233 ∈ P672308 := hsb672310 q672233 hmq672233
    have hsb672318 : rSub P672228 P672308 := rSub_tr (rSub_rf (P := P672228)) hsb672310
    have he672319 : F672309 q672232 = .inl (I .int, n672247, .inl f672269) := (hfr672311 q672232 hmq672232 (nm_c (rn_ao he672273 he672270) nm_n)).trans he672273
    have he672320 : F672309 q672233 = .inl (I .int, n672249, .inl f672248) := (hfr672311 q672233 hmq672233 (nm_c (rn_ao he672272 he672270) nm_n)).trans he672272
    have hfr672321 : rFr [q672232, q672230] P672228 F672229 F672309 := rFr_call (rSub_rf (P := P672228)) hfr672274 hfr672311 (fun b hb hn => ⟨(nm_c (fun e => hn (e ▸ List.mem_cons_self)) nm_n), (nm_c (fun e => hn (e ▸ (List.mem_cons_of_mem _ List.mem_cons_self))) nm_n)⟩)
    have bo672297 := gB_any o672297
    rw [show Int32.toInt 3 = 3 from by decide] at x672305
    change G _ _ _ _ _ _ _ (.int p672238 :: _) _ _ _
    refine G_widen (cs' := (16 * (o672294.toInt - p672235.toInt)).toNat) (sl' := (160 * (o672294.toInt - p672235.toInt)).toNat) (by omega) (by omega) ?_
    refine G_istore_n (L' := [(1, .int p672238), (0, .ref q672230)]) dr_cX14_goal_64 (Nat.le_of_ble_eq_true rfl) rfl ?_
    refine G_aload_n 1 dr_cX14_goal_65 rfl ?_
    refine Gp_get 12 hm672314 he672312 dr_cX14_goal_66 (gk_X14 D I) (Nat.le_of_ble_eq_true rfl) wr_9_50 rfl ?_
    refine G_aload_n 1 dr_cX14_goal_69 rfl ?_
    refine Gp_get 13 hm672314 he672312 dr_cX14_goal_70 (gk_X14 D I) (Nat.le_of_ble_eq_true rfl) wr_9_51 rfl ?_
    refine G_iload_n 0 dr_cX14_goal_73 rfl ?_
    refine Gp_iast 0 hm672317 he672320 dr_cX14_goal_74 rfl (gB_inr (by omega) (by omega)) (fun F672322 e672323 n672324 => ?_)
    obtain ⟨f672325, hf672325⟩ : ∃ z, z = upd f672248 p672244.toNatClampNeg p672238 := ⟨_, rfl⟩
    rw [← hf672325] at e672323
    have he672326 : F672322 q672232 = .inl (I .int, n672247, .inl f672269) := (n672324 q672232 hneq672232q672233).trans he672319
    have he672327 : F672322 q672230 = .inr (19, [.ref q672231, .int p672234, .int o672294, .int o672295, .int o672296, .int o672297, .int p672236, .ref q672298, .int p672241, .int p672242, .int p672243, .ref q672232, .ref q672233, .int p672244]) := (n672324 q672230 (rn_oa he672312 he672320)).trans he672312
    have he672328 : F672322 q672231 = .inl (I .byte, 8192, .inl f672245) := (n672324 q672231 hneq672231q672233).trans he672313
    have he672329 : F672322 q672233 = .inl (I .int, n672249, .inl f672325) := e672323
    have hfr672330 : rFr [q672233, q672232, q672230] P672228 F672229 F672322 := rFr_put hfr672321 n672324
    have tp672331 : tP I P672308 F672322 o672295 q672298 q672233 q672232 xt672307 := tP_pa x672302 he672320 (Or.inl rfl) n672324
    refine G_aload_n 1 dr_cX14_goal_75 rfl ?_
    refine G_dup dr_cX14_goal_76 rfl ?_
    refine Gp_get 13 hm672314 he672327 dr_cX14_goal_77 (gk_X14 D I) (Nat.le_of_ble_eq_true rfl) wr_9_51 rfl ?_
    refine G_iconst 1 dr_cX14_goal_80 (by decide +kernel) ?_
    refine G_iadd dr_cX14_goal_81 (G_nam fun z672332 hz672332 => ?_)
    have ez672332 : z672332.toInt = p672244.toInt + 1 := by rw [gI_add hz672332 bp672244 (gBl (show Int32.toInt 1 = 1 by decide)) (by decide) (by decide), show Int32.toInt 1 = 1 from by decide]
    have bz672332 : gB z672332 1 1000001 := gB_add (gI_add hz672332 bp672244 (gBl (show Int32.toInt 1 = 1 by decide)) (by decide) (by decide)) bp672244 (gBl (show Int32.toInt 1 = 1 by decide)) (by decide) (by decide)
    refine Gp_put 13 hm672314 he672327 dr_cX14_goal_82 (gk_X14 D I) (Nat.le_of_ble_eq_true rfl) wr_9_51 rfl rfl rfl (Nat.le_of_ble_eq_true rfl) (fun F672333 e672334 n672335 => ?_)
    have he672336 : F672333 q672232 = .inl (I .int, n672247, .inl f672269) := (n672335 q672232 (rn_ao he672326 he672327)).trans he672326
    have he672337 : F672333 q672233 = .inl (I .int, n672249, .inl f672325) := (n672335 q672233 (rn_ao he672329 he672327)).trans he672329
    have he672338 : F672333 q672231 = .inl (I .byte, 8192, .inl f672245) := (n672335 q672231 (rn_ao he672328 he672327)).trans he672328
    have he672339 : F672333 q672230 = .inr (19, [.ref q672231, .int p672234, .int o672294, .int o672295, .int o672296, .int o672297, .int p672236, .ref q672298, .int p672241, .int p672242, .int p672243, .ref q672232, .ref q672233, .int z672332]) := e672334
    have hfr672340 : rFr [q672233, q672232, q672230] P672228 F672229 F672333 := rFr_put' (List.mem_cons_of_mem _ (List.mem_cons_of_mem _ List.mem_cons_self)) hfr672330 n672335
    have tp672341 : tP I P672308 F672333 o672295 q672298 q672233 q672232 xt672307 := tP_put tp672331 he672327 (by decide) n672335
    refine G_iload_n 0 dr_cX14_goal_85 rfl ?_
    exact G_iretA dr_cX14_goal_86 rfl (show (16 * (o672294.toInt - p672235.toInt)).toNat ≤ ((16 * (p672234.toInt - p672235.toInt)).toNat + 3) by omega) (show (160 * (o672294.toInt - p672235.toInt)).toNat ≤ ((160 * (p672234.toInt - p672235.toInt)).toNat + 4 * n672249 + 7) by omega) ⟨P672308, F672333, o672294, o672295, o672296, o672297, q672298, z672332, q672232, n672247, f672269, q672233, n672249, f672325, xt672307, rfl, rfl, hsb672318, hfr672340, he672336, he672337, he672339, he672338, hm672316, (Or.inl rfl), hm672317, (Or.inl rfl), (by omega), (by omega), bo672294, bo672295, bo672296, ⟨by omega, by omega⟩, (by omega), x672300, (by omega), tp672341, x672303, x672304, (by omega), (by omega), (Ne.symm hneq672232q672233), (glC_u hf672325 glC_rf (by omega)), (glL_u hf672325), (glP_u hf672269 x672259 (by first | assumption | exact ⟨by omega, by omega⟩)), (by omega), (by omega), (by omega), (by omega), (by omega), (by omega), (fun R c1 c2 => c1 z672263 f672269 xt672307 o672294 o672295 o672296 o672297 f672325 z672332 ez672263 r672265 hf672269 bo672294 bo672295 bo672296 ht672306 hf672325 ez672332)⟩
  · have r672342 : p672244.toInt = z672263.toInt := gC_eq hc672264
    have bz672263' : gB z672263 0 1000000 := ⟨by omega, by omega⟩
    refine G_aload_n 0 dr_cX14_goal_12 rfl ?_
    refine G_aload_n 0 dr_cX14_goal_13 rfl ?_
    refine Gp_get 12 hmq672230 heq672230 dr_cX14_goal_14 (gk_X14 D I) (Nat.le_of_ble_eq_true rfl) wr_9_50 rfl ?_
    refine G_iconst 2 dr_cX14_goal_17 (by decide +kernel) ?_
    refine G_aload_n 0 dr_cX14_goal_18 rfl ?_
    refine Gp_get 13 hmq672230 heq672230 dr_cX14_goal_19 (gk_X14 D I) (Nat.le_of_ble_eq_true rfl) wr_9_51 rfl ?_
    refine G_imul dr_cX14_goal_22 (G_nam fun z672343 hz672343 => ?_)
    have ez672343 : z672343.toInt = 2 * p672244.toInt := by rw [gI_mul hz672343 (gBl (show Int32.toInt 2 = 2 by decide)) bp672244 (by decide) (by decide) (by decide), show Int32.toInt 2 = 2 from by decide]
    have bz672343 : gB z672343 0 2000000 := gB_mul hz672343 (gBl (show Int32.toInt 2 = 2 by decide)) bp672244 (by decide) (by decide) (by decide) (by decide)
    refine Gw_callS (As := [.ref q672233, .int z672343]) (gV_ok D I) (cp_672352_Arrays_copyOf l hl0 D I P672228 F672229 q672233 z672343 f672248 n672249 hmq672233 heq672233 ⟨by omega, by omega⟩ (by omega) (by omega)) dr_cX14_goal_23 ⟨wr_10_114, wr_1_30, wr_10_116, by decide, rfl, (Nat.le_of_ble_eq_true rfl), (Nat.le_of_ble_eq_true rfl)⟩ wr_10_115 (show 0 + 1 ≤ ((16 * (p672234.toInt - p672235.toInt)).toNat + 3) by first | omega | decide) (show 0 + z672343.toInt.toNat ≤ ((160 * (p672234.toInt - p672235.toInt)).toNat + 4 * n672249 + 7) by first | omega | decide) (Nat.le_of_ble_eq_true rfl) (fun r672387 w672388 dc672384 ds672385 hp672386 => ?_) (fun _ _ _ _ _ z => z.elim)
    obtain ⟨P672395, F672396, q672389, f672390, rfl, rfl, hsb672397, hfr672398, he672399, he672400, hm672401, hq672402, hdc, hds, x672391, x672392, x672393, ht672394⟩ := hp672386
    have hm672403 : q672230 ∈ P672395 := hsb672397 q672230 hmq672230
    have hm672404 : q672231 ∈ P672395 := hsb672397 q672231 hmq672231
    have hm672405 : q672232 ∈ P672395 := hsb672397 q672232 hmq672232
    have hm672406 : q672233 ∈ P672395 := hsb672397 q672233 hmq672233
    have hq672407 : q672389 ∉ P672228 := fun z => hq672402 ((rSub_rf (P := P672228)) q672389 z)
    have hsb672408 : rSub P672228 P672395 := rSub_tr (rSub_rf (P := P672228)) hsb672397
    have he672409 : F672396 q672230 = .inr (19, [.ref q672231, .int p672234, .int p672235, .int p672236, .int p672237, .int p672238, .int p672239, .ref qo672240, .int p672241, .int p672242, .int p672243, .ref q672232, .ref q672233, .int p672244]) := (hfr672398 q672230 hmq672230 nm_n).trans heq672230
    have he672410 : F672396 q672231 = .inl (I .byte, 8192, .inl f672245) := (hfr672398 q672231 hmq672231 nm_n).trans heq672231
    have he672411 : F672396 q672232 = .inl (I .int, n672247, .inl f672246) := (hfr672398 q672232 hmq672232 nm_n).trans heq672232
    have hfr672412 : rFr [] P672228 F672229 F672396 := rFr_call (rSub_rf (P := P672228)) (rFr_rf (W := []) (P := P672228) (F := F672229)) hfr672398 (fun b hb hn => ⟨nm_n, nm_n⟩)
    have tp672413 : tP I P672395 F672396 p672236 qo672240 q672233 q672232 xt672250 := tP_new x672252 hsb672397 (fun b hb => hfr672398 b hb (fun z => by cases z)) (Or.inl rfl) (Or.inl rfl)
    have tp672414 : tP I P672395 F672396 p672236 qo672240 q672389 q672232 xt672250 := tP_new x672252 hsb672397 (fun b hb => hfr672398 b hb (fun z => by cases z)) (Or.inr hq672402) (Or.inl rfl)
    have tp672415 : tP I P672395 F672396 p672236 qo672240 q672233 q672389 xt672250 := tP_new x672252 hsb672397 (fun b hb => hfr672398 b hb (fun z => by cases z)) (Or.inl rfl) (Or.inr hq672402)
    change G _ _ _ _ _ _ _ (.ref q672389 :: _) _ _ _
    refine G_widen (cs' := 1) (sl' := z672343.toInt.toNat) (by omega) (by omega) ?_
    refine Gp_put 12 hm672403 he672409 dr_cX14_goal_26 (gk_X14 D I) (Nat.le_of_ble_eq_true rfl) wr_9_50 rfl rfl rfl (Nat.le_of_ble_eq_true rfl) (fun F672416 e672417 n672418 => ?_)
    have he672419 : F672416 q672231 = .inl (I .byte, 8192, .inl f672245) := (n672418 q672231 (rn_ao he672410 he672409)).trans he672410
    have he672420 : F672416 q672232 = .inl (I .int, n672247, .inl f672246) := (n672418 q672232 (rn_ao he672411 he672409)).trans he672411
    have he672421 : F672416 q672233 = .inl (I .int, n672249, .inl f672248) := (n672418 q672233 (rn_ao he672399 he672409)).trans he672399
    have he672422 : F672416 q672389 = .inl (I .int, z672343.toInt.toNat, .inl f672390) := (n672418 q672389 (fun h => hq672407 (h ▸ hmq672230))).trans he672400
    have he672423 : F672416 q672230 = .inr (19, [.ref q672231, .int p672234, .int p672235, .int p672236, .int p672237, .int p672238, .int p672239, .ref qo672240, .int p672241, .int p672242, .int p672243, .ref q672232, .ref q672389, .int p672244]) := e672417
    have hfr672424 : rFr [q672230] P672228 F672229 F672416 := rFr_put hfr672412 n672418
    have tp672425 : tP I P672395 F672416 p672236 qo672240 q672233 q672232 xt672250 := tP_put tp672413 he672409 (by decide) n672418
    have tp672426 : tP I P672395 F672416 p672236 qo672240 q672389 q672232 xt672250 := tP_put tp672414 he672409 (by decide) n672418
    have tp672427 : tP I P672395 F672416 p672236 qo672240 q672233 q672389 xt672250 := tP_put tp672415 he672409 (by decide) n672418
    refine G_aload_n 0 dr_cX14_goal_29 rfl ?_
    refine G_aload_n 0 dr_cX14_goal_30 rfl ?_
    refine Gp_get 11 hm672403 he672423 dr_cX14_goal_31 (gk_X14 D I) (Nat.le_of_ble_eq_true rfl) wr_9_49 rfl ?_
    refine G_iconst 2 dr_cX14_goal_34 (by decide +kernel) ?_
    refine G_aload_n 0 dr_cX14_goal_35 rfl ?_
    refine Gp_get 13 hm672403 he672423 dr_cX14_goal_36 (gk_X14 D I) (Nat.le_of_ble_eq_true rfl) wr_9_51 rfl ?_
    refine G_imul dr_cX14_goal_39 (G_nam fun z672428 hz672428 => ?_)
    have ez672428 : z672428.toInt = 2 * p672244.toInt := by rw [gI_mul hz672428 (gBl (show Int32.toInt 2 = 2 by decide)) bp672244 (by decide) (by decide) (by decide), show Int32.toInt 2 = 2 from by decide]
    have bz672428 : gB z672428 0 2000000 := gB_mul hz672428 (gBl (show Int32.toInt 2 = 2 by decide)) bp672244 (by decide) (by decide) (by decide) (by decide)
    refine Gw_callS (As := [.ref q672232, .int z672428]) (gV_ok D I) (cp_672352_Arrays_copyOf l hl0 D I P672395 F672416 q672232 z672428 f672246 n672247 hm672405 he672420 ⟨by omega, by omega⟩ (by omega) (by omega)) dr_cX14_goal_40 ⟨wr_10_114, wr_1_30, wr_10_116, by decide, rfl, (Nat.le_of_ble_eq_true rfl), (Nat.le_of_ble_eq_true rfl)⟩ wr_10_115 (show 1 + 1 ≤ ((16 * (p672234.toInt - p672235.toInt)).toNat + 3) by first | omega | decide) (show z672343.toInt.toNat + z672428.toInt.toNat ≤ ((160 * (p672234.toInt - p672235.toInt)).toNat + 4 * n672249 + 7) by first | omega | decide) (Nat.le_of_ble_eq_true rfl) (fun r672432 w672433 dc672429 ds672430 hp672431 => ?_) (fun _ _ _ _ _ z => z.elim)
    obtain ⟨P672440, F672441, q672434, f672435, rfl, rfl, hsb672442, hfr672443, he672444, he672445, hm672446, hq672447, hdc, hds, x672436, x672437, x672438, ht672439⟩ := hp672431
    have hm672448 : q672230 ∈ P672440 := hsb672442 q672230 hm672403
    have hm672449 : q672231 ∈ P672440 := hsb672442 q672231 hm672404
    have hm672450 : q672232 ∈ P672440 := hsb672442 q672232 hm672405
    have hm672451 : q672233 ∈ P672440 := hsb672442 q672233 hm672406
    have hm672452 : q672389 ∈ P672440 := hsb672442 q672389 hm672401
    have hq672453 : q672434 ∉ P672228 := fun z => hq672447 (hsb672408 q672434 z)
    have hsb672454 : rSub P672228 P672440 := rSub_tr hsb672408 hsb672442
    have he672455 : F672441 q672230 = .inr (19, [.ref q672231, .int p672234, .int p672235, .int p672236, .int p672237, .int p672238, .int p672239, .ref qo672240, .int p672241, .int p672242, .int p672243, .ref q672232, .ref q672389, .int p672244]) := (hfr672443 q672230 hm672403 nm_n).trans he672423
    have he672456 : F672441 q672231 = .inl (I .byte, 8192, .inl f672245) := (hfr672443 q672231 hm672404 nm_n).trans he672419
    have he672457 : F672441 q672233 = .inl (I .int, n672249, .inl f672248) := (hfr672443 q672233 hm672406 nm_n).trans he672421
    have he672458 : F672441 q672389 = .inl (I .int, z672343.toInt.toNat, .inl f672390) := (hfr672443 q672389 hm672401 nm_n).trans he672422
    have hfr672459 : rFr [q672230] P672228 F672229 F672441 := rFr_call hsb672408 hfr672424 hfr672443 (fun b hb hn => ⟨(nm_c (fun e => hn (e ▸ List.mem_cons_self)) nm_n), nm_n⟩)
    have tp672460 : tP I P672440 F672441 p672236 qo672240 q672233 q672232 xt672250 := tP_new tp672425 hsb672442 (fun b hb => hfr672443 b hb (fun z => by cases z)) (Or.inl rfl) (Or.inl rfl)
    have tp672461 : tP I P672440 F672441 p672236 qo672240 q672434 q672232 xt672250 := tP_new tp672425 hsb672442 (fun b hb => hfr672443 b hb (fun z => by cases z)) (Or.inr hq672447) (Or.inl rfl)
    have tp672462 : tP I P672440 F672441 p672236 qo672240 q672233 q672434 xt672250 := tP_new tp672425 hsb672442 (fun b hb => hfr672443 b hb (fun z => by cases z)) (Or.inl rfl) (Or.inr hq672447)
    have tp672463 : tP I P672440 F672441 p672236 qo672240 q672389 q672232 xt672250 := tP_new tp672426 hsb672442 (fun b hb => hfr672443 b hb (fun z => by cases z)) (Or.inl rfl) (Or.inl rfl)
    have tp672464 : tP I P672440 F672441 p672236 qo672240 q672434 q672232 xt672250 := tP_new tp672426 hsb672442 (fun b hb => hfr672443 b hb (fun z => by cases z)) (Or.inr hq672447) (Or.inl rfl)
    have tp672465 : tP I P672440 F672441 p672236 qo672240 q672389 q672434 xt672250 := tP_new tp672426 hsb672442 (fun b hb => hfr672443 b hb (fun z => by cases z)) (Or.inl rfl) (Or.inr hq672447)
    have tp672466 : tP I P672440 F672441 p672236 qo672240 q672233 q672389 xt672250 := tP_new tp672427 hsb672442 (fun b hb => hfr672443 b hb (fun z => by cases z)) (Or.inl rfl) (Or.inl rfl)
    have tp672467 : tP I P672440 F672441 p672236 qo672240 q672434 q672389 xt672250 := tP_new tp672427 hsb672442 (fun b hb => hfr672443 b hb (fun z => by cases z)) (Or.inr hq672447) (Or.inl rfl)
    have tp672468 : tP I P672440 F672441 p672236 qo672240 q672233 q672434 xt672250 := tP_new tp672427 hsb672442 (fun b hb => hfr672443 b hb (fun z => by cases z)) (Or.inl rfl) (Or.inr hq672447)
    have hne672469 : q672389 ≠ q672434 := fun h => hq672447 (h ▸ hm672401)
    change G _ _ _ _ _ _ _ (.ref q672434 :: _) _ _ _
    refine G_widen (cs' := 2) (sl' := z672343.toInt.toNat + z672428.toInt.toNat) (by omega) (by omega) ?_
    refine Gp_put 11 hm672448 he672455 dr_cX14_goal_43 (gk_X14 D I) (Nat.le_of_ble_eq_true rfl) wr_9_49 rfl rfl rfl (Nat.le_of_ble_eq_true rfl) (fun F672470 e672471 n672472 => ?_)
    have he672473 : F672470 q672231 = .inl (I .byte, 8192, .inl f672245) := (n672472 q672231 (rn_ao he672456 he672455)).trans he672456
    have he672474 : F672470 q672233 = .inl (I .int, n672249, .inl f672248) := (n672472 q672233 (rn_ao he672457 he672455)).trans he672457
    have he672475 : F672470 q672389 = .inl (I .int, z672343.toInt.toNat, .inl f672390) := (n672472 q672389 (fun h => hq672407 (h ▸ hmq672230))).trans he672458
    have he672476 : F672470 q672232 = .inl (I .int, n672247, .inl f672246) := (n672472 q672232 (rn_ao he672444 he672455)).trans he672444
    have he672477 : F672470 q672434 = .inl (I .int, z672428.toInt.toNat, .inl f672435) := (n672472 q672434 (fun h => hq672453 (h ▸ hmq672230))).trans he672445
    have he672478 : F672470 q672230 = .inr (19, [.ref q672231, .int p672234, .int p672235, .int p672236, .int p672237, .int p672238, .int p672239, .ref qo672240, .int p672241, .int p672242, .int p672243, .ref q672434, .ref q672389, .int p672244]) := e672471
    have hfr672479 : rFr [q672230] P672228 F672229 F672470 := rFr_put' List.mem_cons_self hfr672459 n672472
    have tp672480 : tP I P672440 F672470 p672236 qo672240 q672233 q672232 xt672250 := tP_put tp672460 he672455 (by decide) n672472
    have tp672481 : tP I P672440 F672470 p672236 qo672240 q672434 q672232 xt672250 := tP_put tp672461 he672455 (by decide) n672472
    have tp672482 : tP I P672440 F672470 p672236 qo672240 q672233 q672434 xt672250 := tP_put tp672462 he672455 (by decide) n672472
    have tp672483 : tP I P672440 F672470 p672236 qo672240 q672389 q672232 xt672250 := tP_put tp672463 he672455 (by decide) n672472
    have tp672484 : tP I P672440 F672470 p672236 qo672240 q672434 q672232 xt672250 := tP_put tp672464 he672455 (by decide) n672472
    have tp672485 : tP I P672440 F672470 p672236 qo672240 q672389 q672434 xt672250 := tP_put tp672465 he672455 (by decide) n672472
    have tp672486 : tP I P672440 F672470 p672236 qo672240 q672233 q672389 xt672250 := tP_put tp672466 he672455 (by decide) n672472
    have tp672487 : tP I P672440 F672470 p672236 qo672240 q672434 q672389 xt672250 := tP_put tp672467 he672455 (by decide) n672472
    have tp672488 : tP I P672440 F672470 p672236 qo672240 q672233 q672434 xt672250 := tP_put tp672468 he672455 (by decide) n672472
    refine G_aload_n 0 dr_cX14_goal_46 rfl ?_
    refine Gp_get 11 hm672448 he672478 dr_cX14_goal_47 (gk_X14 D I) (Nat.le_of_ble_eq_true rfl) wr_9_49 rfl ?_
    refine G_aload_n 0 dr_cX14_goal_50 rfl ?_
    refine Gp_get 13 hm672448 he672478 dr_cX14_goal_51 (gk_X14 D I) (Nat.le_of_ble_eq_true rfl) wr_9_51 rfl ?_
    refine G_aload_n 0 dr_cX14_goal_54 rfl ?_
    refine Gp_get 4 hm672448 he672478 dr_cX14_goal_55 (gk_X14 D I) (Nat.le_of_ble_eq_true rfl) wr_9_40 rfl ?_
    refine Gp_iast 0 hm672446 he672477 dr_cX14_goal_58 rfl (gB_inr (by omega) (by omega)) (fun F672489 e672490 n672491 => ?_)
    obtain ⟨f672492, hf672492⟩ : ∃ z, z = upd f672435 p672244.toNatClampNeg p672237 := ⟨_, rfl⟩
    rw [← hf672492] at e672490
    have he672493 : F672489 q672230 = .inr (19, [.ref q672231, .int p672234, .int p672235, .int p672236, .int p672237, .int p672238, .int p672239, .ref qo672240, .int p672241, .int p672242, .int p672243, .ref q672434, .ref q672389, .int p672244]) := (n672491 q672230 (fun h => hq672453 (h ▸ hmq672230))).trans he672478
    have he672494 : F672489 q672231 = .inl (I .byte, 8192, .inl f672245) := (n672491 q672231 (fun h => hq672453 (h ▸ hmq672231))).trans he672473
    have he672495 : F672489 q672233 = .inl (I .int, n672249, .inl f672248) := (n672491 q672233 (fun h => hq672453 (h ▸ hmq672233))).trans he672474
    have he672496 : F672489 q672389 = .inl (I .int, z672343.toInt.toNat, .inl f672390) := (n672491 q672389 hne672469).trans he672475
    have he672497 : F672489 q672232 = .inl (I .int, n672247, .inl f672246) := (n672491 q672232 (fun h => hq672453 (h ▸ hmq672232))).trans he672476
    have he672498 : F672489 q672434 = .inl (I .int, z672428.toInt.toNat, .inl f672492) := e672490
    have hfr672499 : rFr [q672230] P672228 F672229 F672489 := rFr_newp hq672453 hfr672479 n672491
    have tp672501 : tP I P672440 F672489 p672236 qo672240 q672434 q672232 xt672250 := tP_pa tp672481 he672477 (Or.inl rfl) n672491
    have tp672502 : tP I P672440 F672489 p672236 qo672240 q672233 q672434 xt672250 := tP_pa tp672482 he672477 (Or.inr rfl) n672491
    have tp672504 : tP I P672440 F672489 p672236 qo672240 q672434 q672232 xt672250 := tP_pa tp672484 he672477 (Or.inl rfl) n672491
    have tp672505 : tP I P672440 F672489 p672236 qo672240 q672389 q672434 xt672250 := tP_pa tp672485 he672477 (Or.inr rfl) n672491
    have tp672507 : tP I P672440 F672489 p672236 qo672240 q672434 q672389 xt672250 := tP_pa tp672487 he672477 (Or.inl rfl) n672491
    have tp672508 : tP I P672440 F672489 p672236 qo672240 q672233 q672434 xt672250 := tP_pa tp672488 he672477 (Or.inr rfl) n672491
    refine G_aload_n 0 dr_cX14_goal_59 rfl ?_
    refine G_iconst 3 dr_cX14_goal_60 (by decide +kernel) ?_
    refine Gw_callV (As := [.int 3]) (gV_ok D I) (cp_671460_Reader_want l hl0 D I P672440 F672489 q672230 q672231 3 p672234 p672235 p672236 p672237 p672238 p672239 qo672240 p672241 p672242 p672243 q672434 q672389 p672244 f672245 xt672250 hm672448 hm672449 he672493 he672494 (gB_w (gBl (show Int32.toInt 3 = 3 by decide)) (by decide) (by decide)) bp672234 bp672235 bp672236 bp672237 bp672239 bp672241 bp672242 bp672243 bp672244 bf672245 (by omega) hm672452 hm672446 tp672505 x672253) dr_cX14_goal_61 ⟨wr_9_93, wr_1_32, wr_9_96, by decide, rfl, (Nat.le_of_ble_eq_true rfl), (Nat.le_of_ble_eq_true rfl)⟩ wr_9_95 wr_p_80 hm672448 he672493 rfl (show 2 + ((16 * (p672234.toInt - p672235.toInt)).toNat + 1) ≤ ((16 * (p672234.toInt - p672235.toInt)).toNat + 3) by first | omega | decide) (show z672343.toInt.toNat + z672428.toInt.toNat + ((160 * (p672234.toInt - p672235.toInt)).toNat + 7) ≤ ((160 * (p672234.toInt - p672235.toInt)).toNat + 4 * n672249 + 7) by first | omega | decide) (Nat.le_of_ble_eq_true rfl) (fun r672512 w672513 dc672509 ds672510 hp672511 => ?_) (fun _ qx672525 _ dc672523 ds672524 hx => by obtain ⟨P672521, F672522, rfl, rfl, hsb672514, hfr672515, hq672516, hqn672517, hwr672518, hdc672519, hds672520, ht672526⟩ := hx; exact GT_outA rfl (show 2 + dc672523 ≤ ((16 * (p672234.toInt - p672235.toInt)).toNat + 3) by omega) (show z672343.toInt.toNat + z672428.toInt.toNat + ds672524 ≤ ((160 * (p672234.toInt - p672235.toInt)).toNat + 4 * n672249 + 7) by omega) ⟨P672521, F672522, rfl, rfl, (rSub_tr hsb672454 hsb672514), (rFr_v (show rFr [q672230] P672228 F672229 F672522 from rFr_call hsb672454 hfr672499 hfr672515 (fun b hb hn => ⟨(nm_c (fun e => hn (e ▸ List.mem_cons_self)) nm_n), nm_n⟩)) (fun b hn => (nm_c (fun e => hn (e ▸ (List.mem_cons_of_mem _ List.mem_cons_self))) nm_n))), hq672516, (fun z => hqn672517 (hsb672454 _ z)), hwr672518, (by omega), (by omega), (fun R c1 c2 => c2 z672263 z672343 f672390 z672428 f672435 ez672263 r672342 ez672343 ht672394 ez672428 ht672439 ht672526)⟩)
    obtain ⟨P672541, F672542, o672527, o672528, o672529, o672530, q672531, xt672540, rfl, rfl, hsb672543, hfr672544, he672545, he672546, hdc, hds, bo672527, bo672528, bo672529, x672532, x672533, x672534, x672535, x672536, x672537, x672538, ht672539⟩ := hp672511
    have hm672547 : q672230 ∈ P672541 := hsb672543 q672230 hm672448
    have hm672548 : q672231 ∈ P672541 := hsb672543 q672231 hm672449
    have hm672549 : q672232 ∈ P672541 := hsb672543 q672232 hm672450
    have hm672550 : q672233 ∈ P672541 := hsb672543 q672233 hm672451
    have hm672551 : q672389 ∈ P672541 := hsb672543 q672389 hm672452
    have hm672552 : q672434 ∈ P672541 := hsb672543 q672434 hm672446
    have hsb672553 : rSub P672228 P672541 := rSub_tr hsb672454 hsb672543
    have he672554 : F672542 q672233 = .inl (I .int, n672249, .inl f672248) := (hfr672544 q672233 hm672451 (nm_c (rn_ao he672495 he672493) nm_n)).trans he672495
    have he672555 : F672542 q672389 = .inl (I .int, z672343.toInt.toNat, .inl f672390) := (hfr672544 q672389 hm672452 (nm_c (fun h => hq672407 (h ▸ hmq672230)) nm_n)).trans he672496
    have he672556 : F672542 q672232 = .inl (I .int, n672247, .inl f672246) := (hfr672544 q672232 hm672450 (nm_c (rn_ao he672497 he672493) nm_n)).trans he672497
    have he672557 : F672542 q672434 = .inl (I .int, z672428.toInt.toNat, .inl f672492) := (hfr672544 q672434 hm672446 (nm_c (fun h => hq672453 (h ▸ hmq672230)) nm_n)).trans he672498
    have hfr672558 : rFr [q672230] P672228 F672229 F672542 := rFr_call hsb672454 hfr672499 hfr672544 (fun b hb hn => ⟨(nm_c (fun e => hn (e ▸ List.mem_cons_self)) nm_n), (nm_c (fun e => hn (e ▸ List.mem_cons_self)) nm_n)⟩)
    have bo672530 := gB_any o672530
    rw [show Int32.toInt 3 = 3 from by decide] at x672538
    change G _ _ _ _ _ _ _ (.int p672238 :: _) _ _ _
    refine G_widen (cs' := 2 + ((16 * (o672527.toInt - p672235.toInt)).toNat)) (sl' := z672343.toInt.toNat + z672428.toInt.toNat + ((160 * (o672527.toInt - p672235.toInt)).toNat)) (by omega) (by omega) ?_
    refine G_istore_n (L' := [(1, .int p672238), (0, .ref q672230)]) dr_cX14_goal_64 (Nat.le_of_ble_eq_true rfl) rfl ?_
    refine G_aload_n 1 dr_cX14_goal_65 rfl ?_
    refine Gp_get 12 hm672547 he672545 dr_cX14_goal_66 (gk_X14 D I) (Nat.le_of_ble_eq_true rfl) wr_9_50 rfl ?_
    refine G_aload_n 1 dr_cX14_goal_69 rfl ?_
    refine Gp_get 13 hm672547 he672545 dr_cX14_goal_70 (gk_X14 D I) (Nat.le_of_ble_eq_true rfl) wr_9_51 rfl ?_
    refine G_iload_n 0 dr_cX14_goal_73 rfl ?_
    refine Gp_iast 0 hm672551 he672555 dr_cX14_goal_74 rfl (gB_inr (by omega) (by omega)) (fun F672559 e672560 n672561 => ?_)
    obtain ⟨f672562, hf672562⟩ : ∃ z, z = upd f672390 p672244.toNatClampNeg p672238 := ⟨_, rfl⟩
    rw [← hf672562] at e672560
    have he672563 : F672559 q672233 = .inl (I .int, n672249, .inl f672248) := (n672561 q672233 (fun h => hq672407 (h ▸ hmq672233))).trans he672554
    have he672564 : F672559 q672232 = .inl (I .int, n672247, .inl f672246) := (n672561 q672232 (fun h => hq672407 (h ▸ hmq672232))).trans he672556
    have he672565 : F672559 q672434 = .inl (I .int, z672428.toInt.toNat, .inl f672492) := (n672561 q672434 (Ne.symm hne672469)).trans he672557
    have he672566 : F672559 q672230 = .inr (19, [.ref q672231, .int p672234, .int o672527, .int o672528, .int o672529, .int o672530, .int p672236, .ref q672531, .int p672241, .int p672242, .int p672243, .ref q672434, .ref q672389, .int p672244]) := (n672561 q672230 (fun h => hq672407 (h ▸ hmq672230))).trans he672545
    have he672567 : F672559 q672231 = .inl (I .byte, 8192, .inl f672245) := (n672561 q672231 (fun h => hq672407 (h ▸ hmq672231))).trans he672546
    have he672568 : F672559 q672389 = .inl (I .int, z672343.toInt.toNat, .inl f672562) := e672560
    have hfr672569 : rFr [q672230] P672228 F672229 F672559 := rFr_newp hq672407 hfr672558 n672561
    have tp672570 : tP I P672541 F672559 o672528 q672531 q672389 q672434 xt672540 := tP_pa x672535 he672555 (Or.inl rfl) n672561
    refine G_aload_n 1 dr_cX14_goal_75 rfl ?_
    refine G_dup dr_cX14_goal_76 rfl ?_
    refine Gp_get 13 hm672547 he672566 dr_cX14_goal_77 (gk_X14 D I) (Nat.le_of_ble_eq_true rfl) wr_9_51 rfl ?_
    refine G_iconst 1 dr_cX14_goal_80 (by decide +kernel) ?_
    refine G_iadd dr_cX14_goal_81 (G_nam fun z672571 hz672571 => ?_)
    have ez672571 : z672571.toInt = p672244.toInt + 1 := by rw [gI_add hz672571 bp672244 (gBl (show Int32.toInt 1 = 1 by decide)) (by decide) (by decide), show Int32.toInt 1 = 1 from by decide]
    have bz672571 : gB z672571 1 1000001 := gB_add (gI_add hz672571 bp672244 (gBl (show Int32.toInt 1 = 1 by decide)) (by decide) (by decide)) bp672244 (gBl (show Int32.toInt 1 = 1 by decide)) (by decide) (by decide)
    refine Gp_put 13 hm672547 he672566 dr_cX14_goal_82 (gk_X14 D I) (Nat.le_of_ble_eq_true rfl) wr_9_51 rfl rfl rfl (Nat.le_of_ble_eq_true rfl) (fun F672572 e672573 n672574 => ?_)
    have he672575 : F672572 q672233 = .inl (I .int, n672249, .inl f672248) := (n672574 q672233 (rn_ao he672563 he672566)).trans he672563
    have he672576 : F672572 q672389 = .inl (I .int, z672343.toInt.toNat, .inl f672562) := (n672574 q672389 (fun h => hq672407 (h ▸ hmq672230))).trans he672568
    have he672577 : F672572 q672232 = .inl (I .int, n672247, .inl f672246) := (n672574 q672232 (rn_ao he672564 he672566)).trans he672564
    have he672578 : F672572 q672434 = .inl (I .int, z672428.toInt.toNat, .inl f672492) := (n672574 q672434 (fun h => hq672453 (h ▸ hmq672230))).trans he672565
    have he672579 : F672572 q672231 = .inl (I .byte, 8192, .inl f672245) := (n672574 q672231 (rn_ao he672567 he672566)).trans he672567
    have he672580 : F672572 q672230 = .inr (19, [.ref q672231, .int p672234, .int o672527, .int o672528, .int o672529, .int o672530, .int p672236, .ref q672531, .int p672241, .int p672242, .int p672243, .ref q672434, .ref q672389, .int z672571]) := e672573
    have hfr672581 : rFr [q672230] P672228 F672229 F672572 := rFr_put' List.mem_cons_self hfr672569 n672574
    have tp672582 : tP I P672541 F672572 o672528 q672531 q672389 q672434 xt672540 := tP_put tp672570 he672566 (by decide) n672574
    refine G_iload_n 0 dr_cX14_goal_85 rfl ?_
    exact G_iretA dr_cX14_goal_86 rfl (show 2 + ((16 * (o672527.toInt - p672235.toInt)).toNat) ≤ ((16 * (p672234.toInt - p672235.toInt)).toNat + 3) by omega) (show z672343.toInt.toNat + z672428.toInt.toNat + ((160 * (o672527.toInt - p672235.toInt)).toNat) ≤ ((160 * (p672234.toInt - p672235.toInt)).toNat + 4 * n672249 + 7) by omega) ⟨P672541, F672572, o672527, o672528, o672529, o672530, q672531, z672571, q672434, z672428.toInt.toNat, f672492, q672389, z672343.toInt.toNat, f672562, xt672540, rfl, rfl, hsb672553, (rFr_v hfr672581 (fun b hn => (nm_c (fun e => hn (e ▸ (List.mem_cons_of_mem _ (List.mem_cons_of_mem _ List.mem_cons_self)))) nm_n))), he672578, he672576, he672580, he672579, hm672552, (Or.inr hq672453), hm672551, (Or.inr hq672407), (by omega), (by omega), bo672527, bo672528, bo672529, ⟨by omega, by omega⟩, (by omega), x672533, (by omega), tp672582, x672536, x672537, (by omega), (by omega), hne672469, (glC_u hf672562 (glC_tr glC_rf x672392 (show p672244.toInt ≤ p672244.toInt from Int.le_refl _) (by omega)) (by omega)), (glL_u hf672562), (glP_u hf672492 (glP_b x672438 x672259) (by first | assumption | exact ⟨by omega, by omega⟩)), (by omega), (by omega), (by omega), (by omega), (by omega), (by omega), (fun R c1 c2 => c2 z672263 z672343 f672390 z672428 f672435 f672492 xt672540 o672527 o672528 o672529 o672530 f672562 z672571 ez672263 r672342 ez672343 ht672394 ez672428 ht672439 hf672492 bo672527 bo672528 bo672529 ht672539 hf672562 ez672571)⟩
/- tr_RReader_row: a.0...at, a.0...kind, a.0...place, a.0...value, a.0...before, a.1...op, a.1...t, a.1...a, a.1...b, a.1...regA, a.1...regB -/
def tr_RReader_row (a0_n : Int32) (a0_at : Int32) (a0_kind : Int32) (a0_value : Int32) (a1_t : Int32) (a1_a : Int32) (a1_b : Int32) (a1_regA : Int32) (a1_regB : Int32) (a0_t_v : Nat → Int32) (xt : gTx) (o1 : Int32) (o2 : Int32) (o3 : Int32) (o4 : Int32) (o5 : Int32) (o6 : Int32) (o7 : Int32) (o8 : Int32) (o9 : Int32) (o10 : Int32) (o11 : Int32) (o12 : gTx) : Prop := ∀ R : (Int32) → (Int32) → (Int32) → (Int32) → (Int32) → (Int32) → (Int32) → (Int32) → (Int32) → (Int32) → (Int32) → (gTx) → Prop,
  (∀ (x1 : Int32) (x2 : gTx) (x3 : Int32) (x4 : Int32) (x5 : Int32) (x6 : Int32) (x7 : gTx) (x8 : Int32) (x9 : Int32) (x10 : Int32) (x11 : Int32) (x12 : Int32) (x13 : gTx) (x14 : Int32) (x15 : Int32) (x16 : Int32) (x17 : Int32) (x18 : Int32) (x19 : Int32) (x20 : Int32) (x21 : Int32), gB x1 0 1 → tr_RReader_is sb_39 a0_kind xt x1 → x1.toInt = 0 → gB x3 0 8192 → gB x4 0 6 → gB x5 0 8192 → tr_RReader_want2 (2 : Int32) a0_n a0_at a0_kind a0_value a0_t_v x3 x4 x5 x6 x2 → gB x8 0 8192 → gB x9 0 6 → gB x10 0 8192 → tr_RReader_want sb_40 a0_n x3 x4 x6 a0_t_v x2 x8 x9 x10 x11 x7 → gB x12 0 1 → tr_RReader_is sb_41 x9 x7 x12 → x12.toInt = 0 → gB x14 0 8192 → gB x15 0 6 → gB x16 0 8192 → gB x20 0 1 → gB x21 0 1 → tr_RReader_operand (0 : Int32) a0_n x8 x9 x11 a1_a a1_b a1_regA a1_regB a0_t_v x14 x15 x16 x17 x18 x19 x20 x21 x13 → x15.toInt ≠ 5 → R x14 x15 x16 x17 x9 (0 : Int32) a0_value x18 x19 x20 x21 x13) →
  (∀ (x1 : Int32) (x2 : gTx) (x3 : Int32) (x4 : Int32) (x5 : Int32) (x6 : Int32) (x7 : gTx) (x8 : Int32) (x9 : Int32) (x10 : Int32) (x11 : Int32) (x12 : Int32) (x13 : gTx) (x14 : Int32) (x15 : Int32) (x16 : Int32) (x17 : Int32) (x18 : Int32) (x19 : Int32) (x20 : Int32) (x21 : Int32) (x22 : Int32) (x23 : gTx) (x24 : Int32) (x25 : Int32) (x26 : Int32) (x27 : Int32) (x28 : gTx) (x29 : Int32) (x30 : Int32) (x31 : Int32) (x32 : Int32) (x33 : Int32) (x34 : Int32) (x35 : Int32) (x36 : Int32), gB x1 0 1 → tr_RReader_is sb_39 a0_kind xt x1 → x1.toInt = 0 → gB x3 0 8192 → gB x4 0 6 → gB x5 0 8192 → tr_RReader_want2 (2 : Int32) a0_n a0_at a0_kind a0_value a0_t_v x3 x4 x5 x6 x2 → gB x8 0 8192 → gB x9 0 6 → gB x10 0 8192 → tr_RReader_want sb_40 a0_n x3 x4 x6 a0_t_v x2 x8 x9 x10 x11 x7 → gB x12 0 1 → tr_RReader_is sb_41 x9 x7 x12 → x12.toInt = 0 → gB x14 0 8192 → gB x15 0 6 → gB x16 0 8192 → gB x20 0 1 → gB x21 0 1 → tr_RReader_operand (0 : Int32) a0_n x8 x9 x11 a1_a a1_b a1_regA a1_regB a0_t_v x14 x15 x16 x17 x18 x19 x20 x21 x13 → x15.toInt = 5 → gB x22 0 14 → tr_RModel_operation x13.2 x13.1 x22 → x22.toInt ≠ 0 → gB x24 0 8192 → gB x25 0 6 → gB x26 0 8192 → tr_RReader_next a0_n x14 x15 x17 a0_t_v x24 x25 x26 x27 x23 → gB x29 0 8192 → gB x30 0 6 → gB x31 0 8192 → gB x35 0 1 → gB x36 0 1 → tr_RReader_operand (1 : Int32) a0_n x24 x25 x27 x18 x19 x20 x21 a0_t_v x29 x30 x31 x32 x33 x34 x35 x36 x28 → R x29 x30 x31 x32 x25 x22 a0_value x33 x34 x35 x36 x28) →
  (∀ (x1 : Int32) (x2 : gTx) (x3 : Int32) (x4 : Int32) (x5 : Int32) (x6 : Int32) (x7 : gTx) (x8 : Int32) (x9 : Int32) (x10 : Int32) (x11 : Int32) (x12 : Int32) (x13 : gTx) (x14 : Int32) (x15 : Int32) (x16 : Int32) (x17 : Int32) (x18 : Int32) (x19 : Int32) (x20 : Int32) (x21 : Int32) (x22 : Int32), gB x1 0 1 → tr_RReader_is sb_39 a0_kind xt x1 → x1.toInt = 0 → gB x3 0 8192 → gB x4 0 6 → gB x5 0 8192 → tr_RReader_want2 (2 : Int32) a0_n a0_at a0_kind a0_value a0_t_v x3 x4 x5 x6 x2 → gB x8 0 8192 → gB x9 0 6 → gB x10 0 8192 → tr_RReader_want sb_40 a0_n x3 x4 x6 a0_t_v x2 x8 x9 x10 x11 x7 → gB x12 0 1 → tr_RReader_is sb_41 x9 x7 x12 → x12.toInt = 0 → gB x14 0 8192 → gB x15 0 6 → gB x16 0 8192 → gB x20 0 1 → gB x21 0 1 → tr_RReader_operand (0 : Int32) a0_n x8 x9 x11 a1_a a1_b a1_regA a1_regB a0_t_v x14 x15 x16 x17 x18 x19 x20 x21 x13 → x15.toInt = 5 → gB x22 0 14 → tr_RModel_operation x13.2 x13.1 x22 → x22.toInt = 0 → R x14 x15 x16 x17 x9 x22 a0_value x18 x19 x20 x21 (x13.1, x13.2)) →
  (∀ (x1 : Int32) (x2 : gTx) (x3 : Int32) (x4 : Int32) (x5 : Int32) (x6 : Int32) (x7 : gTx) (x8 : Int32) (x9 : Int32) (x10 : Int32) (x11 : Int32) (x12 : Int32) (x13 : gTx) (x14 : Int32) (x15 : Int32) (x16 : Int32) (x17 : Int32), gB x1 0 1 → tr_RReader_is sb_39 a0_kind xt x1 → x1.toInt = 0 → gB x3 0 8192 → gB x4 0 6 → gB x5 0 8192 → tr_RReader_want2 (2 : Int32) a0_n a0_at a0_kind a0_value a0_t_v x3 x4 x5 x6 x2 → gB x8 0 8192 → gB x9 0 6 → gB x10 0 8192 → tr_RReader_want sb_40 a0_n x3 x4 x6 a0_t_v x2 x8 x9 x10 x11 x7 → gB x12 0 1 → tr_RReader_is sb_41 x9 x7 x12 → x12.toInt ≠ 0 → gB x14 0 8192 → gB x15 0 6 → gB x16 0 8192 → tr_RReader_next a0_n x8 x9 x11 a0_t_v x14 x15 x16 x17 x13 → R x14 x15 x16 x17 x9 (20 : Int32) a0_value a1_a a1_b a1_regA a1_regB x13) →
  (∀ (x1 : Int32) (x2 : gTx) (x3 : Int32) (x4 : Int32) (x5 : Int32) (x6 : Int32) (x7 : gTx) (x8 : Int32) (x9 : Int32) (x10 : Int32) (x11 : Int32) (x12 : Int32) (x13 : Int32) (x14 : Int32) (x15 : Int32), gB x1 0 1 → tr_RReader_is sb_39 a0_kind xt x1 → x1.toInt ≠ 0 → gB x3 0 8192 → gB x4 0 6 → gB x5 0 8192 → tr_RReader_next a0_n a0_at a0_kind a0_value a0_t_v x3 x4 x5 x6 x2 → gB x8 0 8192 → gB x9 0 6 → gB x10 0 8192 → gB x14 0 1 → gB x15 0 1 → tr_RReader_operand (0 : Int32) a0_n x3 x4 x6 a1_a a1_b a1_regA a1_regB a0_t_v x8 x9 x10 x11 x12 x13 x14 x15 x7 → R x8 x9 x10 x11 x4 (22 : Int32) a1_t x12 x13 x14 x15 x7) →
  R o1 o2 o3 o4 o5 o6 o7 o8 o9 o10 o11 o12
/- tx_RReader_row: throws -/
def tx_RReader_row (a0_n : Int32) (a0_at : Int32) (a0_kind : Int32) (a0_value : Int32) (a1_a : Int32) (a1_b : Int32) (a1_regA : Int32) (a1_regB : Int32) (a0_t_v : Nat → Int32) (xt : gTx) : Prop := ∀ R : Prop,
  (∀ (x1 : Int32), gB x1 0 1 → tr_RReader_is sb_39 a0_kind xt x1 → x1.toInt = 0 → tx_RReader_want2 (2 : Int32) a0_kind → R) →
  (∀ (x1 : Int32) (x2 : gTx) (x3 : Int32) (x4 : Int32) (x5 : Int32) (x6 : Int32), gB x1 0 1 → tr_RReader_is sb_39 a0_kind xt x1 → x1.toInt = 0 → gB x3 0 8192 → gB x4 0 6 → gB x5 0 8192 → tr_RReader_want2 (2 : Int32) a0_n a0_at a0_kind a0_value a0_t_v x3 x4 x5 x6 x2 → tx_RReader_want sb_40 x4 x2 → R) →
  (∀ (x1 : Int32) (x2 : gTx) (x3 : Int32) (x4 : Int32) (x5 : Int32) (x6 : Int32) (x7 : gTx) (x8 : Int32) (x9 : Int32) (x10 : Int32) (x11 : Int32) (x12 : Int32), gB x1 0 1 → tr_RReader_is sb_39 a0_kind xt x1 → x1.toInt = 0 → gB x3 0 8192 → gB x4 0 6 → gB x5 0 8192 → tr_RReader_want2 (2 : Int32) a0_n a0_at a0_kind a0_value a0_t_v x3 x4 x5 x6 x2 → gB x8 0 8192 → gB x9 0 6 → gB x10 0 8192 → tr_RReader_want sb_40 a0_n x3 x4 x6 a0_t_v x2 x8 x9 x10 x11 x7 → gB x12 0 1 → tr_RReader_is sb_41 x9 x7 x12 → x12.toInt = 0 → tx_RReader_operand x9 → R) →
  (∀ (x1 : Int32) (x2 : gTx) (x3 : Int32) (x4 : Int32) (x5 : Int32) (x6 : Int32) (x7 : gTx) (x8 : Int32) (x9 : Int32) (x10 : Int32) (x11 : Int32) (x12 : Int32) (x13 : gTx) (x14 : Int32) (x15 : Int32) (x16 : Int32) (x17 : Int32) (x18 : Int32) (x19 : Int32) (x20 : Int32) (x21 : Int32) (x22 : Int32) (x23 : gTx) (x24 : Int32) (x25 : Int32) (x26 : Int32) (x27 : Int32), gB x1 0 1 → tr_RReader_is sb_39 a0_kind xt x1 → x1.toInt = 0 → gB x3 0 8192 → gB x4 0 6 → gB x5 0 8192 → tr_RReader_want2 (2 : Int32) a0_n a0_at a0_kind a0_value a0_t_v x3 x4 x5 x6 x2 → gB x8 0 8192 → gB x9 0 6 → gB x10 0 8192 → tr_RReader_want sb_40 a0_n x3 x4 x6 a0_t_v x2 x8 x9 x10 x11 x7 → gB x12 0 1 → tr_RReader_is sb_41 x9 x7 x12 → x12.toInt = 0 → gB x14 0 8192 → gB x15 0 6 → gB x16 0 8192 → gB x20 0 1 → gB x21 0 1 → tr_RReader_operand (0 : Int32) a0_n x8 x9 x11 a1_a a1_b a1_regA a1_regB a0_t_v x14 x15 x16 x17 x18 x19 x20 x21 x13 → x15.toInt = 5 → gB x22 0 14 → tr_RModel_operation x13.2 x13.1 x22 → x22.toInt ≠ 0 → gB x24 0 8192 → gB x25 0 6 → gB x26 0 8192 → tr_RReader_next a0_n x14 x15 x17 a0_t_v x24 x25 x26 x27 x23 → tx_RReader_operand x25 → R) →
  (∀ (x1 : Int32) (x2 : gTx) (x3 : Int32) (x4 : Int32) (x5 : Int32) (x6 : Int32), gB x1 0 1 → tr_RReader_is sb_39 a0_kind xt x1 → x1.toInt ≠ 0 → gB x3 0 8192 → gB x4 0 6 → gB x5 0 8192 → tr_RReader_next a0_n a0_at a0_kind a0_value a0_t_v x3 x4 x5 x6 x2 → tx_RReader_operand x4 → R) →
  R
abbrev ky_672635_Reader_row : gKey := (cX14_row, 2, "SpillForgeModel$Reader", none, [], "row", fun _ _ => True)
def pp_672635_Reader_row (D : va_G) (I : FieldType → ClassId) (P672600 : List Nat) (F672601 : Nat → va_E) (q672602 : Nat) (q672603 : Nat) (q672604 : Nat) (p672605 : Int32) (p672606 : Int32) (p672607 : Int32) (p672608 : Int32) (p672609 : Int32) (p672610 : Int32) (qo672611 : Nat) (p672612 : Int32) (p672613 : Int32) (p672614 : Int32) (qo672615 : Nat) (qo672616 : Nat) (p672617 : Int32) (p672618 : Int32) (p672619 : Int32) (p672620 : Int32) (p672621 : Int32) (p672622 : Int32) (p672623 : Int32) (p672624 : Int32) (f672625 : Nat → Int32) (xt672626 : gTx) : Option Value → va_W → Nat → Nat → Prop := fun r w dc ds => ∃ (P673116 : List Nat) (F673117 : Nat → va_E) (o673104 : Int32) (o673105 : Int32) (o673106 : Int32) (o673107 : Int32) (o673108 : Int32) (q673109 : Nat) (o673110 : Int32) (o673111 : Int32) (o673112 : Int32) (o673113 : Int32) (o673114 : Int32) (o673115 : Int32) (xt673118 : gTx), r = none ∧ w = va_pl P673116 F673117 ∧ rSub P672600 P673116 ∧ rFr [q672603, q672602] P672600 F672601 F673117 ∧ F673117 q672603 = .inr (20, [.int o673110, .int o673111, .int o673112, .int o673113, .int p672622, .int o673114, .int o673115]) ∧ F673117 q672602 = .inr (19, [.ref q672604, .int p672605, .int o673104, .int o673105, .int o673106, .int o673107, .int o673108, .ref q673109, .int p672612, .int p672613, .int p672614, .ref qo672615, .ref qo672616, .int p672617]) ∧ F673117 q672604 = .inl (I .byte, 8192, .inl f672625) ∧ dc ≤ (16 * (o673104.toInt - p672606.toInt)).toNat + 8 ∧ ds ≤ (160 * (o673104.toInt - p672606.toInt)).toNat + 64 ∧ gB o673104 0 8192 ∧ gB o673105 0 6 ∧ gB o673106 0 8192 ∧ gB o673108 0 6 ∧ gB o673110 0 22 ∧ gB o673111 0 1999 ∧ gB o673114 0 1 ∧ gB o673115 0 1 ∧ p672606.toInt ≤ o673104.toInt ∧ prP o673105 p672606 o673104 ∧ o673104.toInt ≤ p672605.toInt ∧ tP I P673116 F673117 o673105 q673109 qo672616 qo672615 xt673118 ∧ vP o673105 o673107 ∧ rwP o673114 o673112 ∧ rwP o673115 o673113 ∧ opP o673110 ∧ opQ o673110 ∧ nzK p672607 ∧ rwQ p672606 o673104 o673105 ∧ tr_RReader_row p672605 p672606 p672607 p672609 p672619 p672620 p672621 p672623 p672624 f672625 xt672626 o673104 o673105 o673106 o673107 o673108 o673110 o673111 o673112 o673113 o673114 o673115 xt673118
def xp_672635_Reader_row (D : va_G) (I : FieldType → ClassId) (P672600 : List Nat) (F672601 : Nat → va_E) (q672602 : Nat) (q672603 : Nat) (q672604 : Nat) (p672605 : Int32) (p672606 : Int32) (p672607 : Int32) (p672608 : Int32) (p672609 : Int32) (p672610 : Int32) (qo672611 : Nat) (p672612 : Int32) (p672613 : Int32) (p672614 : Int32) (qo672615 : Nat) (qo672616 : Nat) (p672617 : Int32) (p672618 : Int32) (p672619 : Int32) (p672620 : Int32) (p672621 : Int32) (p672622 : Int32) (p672623 : Int32) (p672624 : Int32) (f672625 : Nat → Int32) (xt672626 : gTx) : String → Nat → va_W → Nat → Nat → Prop := fun E q w dc ds => ∃ (P673120 : List Nat) (F673119 : Nat → va_E), E = "SpillForgeModel$Wrong" ∧ w = va_pl P673120 F673119 ∧ rSub P672600 P673120 ∧ rFr [q672603, q672602] P672600 F672601 F673119 ∧ q ∈ P673120 ∧ q ∉ P672600 ∧ wrF F673119 q ∧ dc ≤ (16 * (p672605.toInt - p672606.toInt)).toNat + 9 ∧ ds ≤ (160 * (p672605.toInt - p672606.toInt)).toNat + 71 ∧ rkR (F673119 q672603) ∧ tx_RReader_row p672605 p672606 p672607 p672609 p672620 p672621 p672623 p672624 f672625 xt672626
set_option maxRecDepth 100000 in
set_option maxHeartbeats 4000000 in
theorem cp_672635_Reader_row (l : Launch) (hl0 : l.stackTraces = false) (D : va_G) (I : FieldType → ClassId) (P672600 : List Nat) (F672601 : Nat → va_E) (q672602 : Nat) (q672603 : Nat) (q672604 : Nat) (p672605 : Int32) (p672606 : Int32) (p672607 : Int32) (p672608 : Int32) (p672609 : Int32) (p672610 : Int32) (qo672611 : Nat) (p672612 : Int32) (p672613 : Int32) (p672614 : Int32) (qo672615 : Nat) (qo672616 : Nat) (p672617 : Int32) (p672618 : Int32) (p672619 : Int32) (p672620 : Int32) (p672621 : Int32) (p672622 : Int32) (p672623 : Int32) (p672624 : Int32) (f672625 : Nat → Int32) (xt672626 : gTx) (hmq672602 : q672602 ∈ P672600) (hmq672603 : q672603 ∈ P672600) (hmq672604 : q672604 ∈ P672600) (heq672602 : F672601 q672602 = .inr (19, [.ref q672604, .int p672605, .int p672606, .int p672607, .int p672608, .int p672609, .int p672610, .ref qo672611, .int p672612, .int p672613, .int p672614, .ref qo672615, .ref qo672616, .int p672617])) (heq672603 : F672601 q672603 = .inr (20, [.int p672618, .int p672619, .int p672620, .int p672621, .int p672622, .int p672623, .int p672624])) (heq672604 : F672601 q672604 = .inl (I .byte, 8192, .inl f672625)) (bp672605 : gB p672605 0 8192) (bp672606 : gB p672606 0 8192) (bp672607 : gB p672607 0 6) (bp672608 : gB p672608 0 8192) (bp672610 : gB p672610 0 6) (bp672612 : gB p672612 (-1) 8192) (bp672613 : gB p672613 0 4) (bp672614 : gB p672614 0 1000000) (bp672617 : gB p672617 0 1000000) (bp672618 : gB p672618 0 32) (bp672619 : gB p672619 0 1999) (bp672622 : gB p672622 0 1999) (bp672623 : gB p672623 0 1) (bp672624 : gB p672624 0 1) (bf672625 : gF f672625 (-128) 127) (x672627 : p672606.toInt ≤ p672605.toInt) (x672628 : qo672616 ∈ P672600) (x672629 : qo672615 ∈ P672600) (x672630 : tP I P672600 F672601 p672607 qo672611 qo672616 qo672615 xt672626) (x672631 : vP p672607 p672609) (x672632 : rwP p672623 p672620) (x672633 : rwP p672624 p672621) (x672634 : opP p672618) : CtA (gV D I) l yX14_row cX14_row 2 none 9 200 ((16 * (p672605.toInt - p672606.toInt)).toNat + 9) ((160 * (p672605.toInt - p672606.toInt)).toNat + 71) [.ref q672602, .ref q672603] (va_pl P672600 F672601) (pp_672635_Reader_row D I P672600 F672601 q672602 q672603 q672604 p672605 p672606 p672607 p672608 p672609 p672610 qo672611 p672612 p672613 p672614 qo672615 qo672616 p672617 p672618 p672619 p672620 p672621 p672622 p672623 p672624 f672625 xt672626) (xp_672635_Reader_row D I P672600 F672601 q672602 q672603 q672604 p672605 p672606 p672607 p672608 p672609 p672610 qo672611 p672612 p672613 p672614 qo672615 qo672616 p672617 p672618 p672619 p672620 p672621 p672622 p672623 p672624 f672625 xt672626) := by
  refine CtA_of hl0 (by decide) (Nat.le_of_ble_eq_true rfl) ?_
  have bp672609 := gB_any p672609
  have bp672620 := gB_any p672620
  have bp672621 := gB_any p672621
  refine G_aload_n 0 dr_cX14_row_0 rfl ?_
  refine G_ldcK (a := D.2 1000 39) dr_cX14_row_1 (fun _ _ _ h => gx_vk 39 rfl rfl h) ?_
  have hl39_672635 : (sb_39.length : Int) = 4 := rfl
  refine Gw_callV (As := [.ref (D.2 1000 39)]) (gV_ok D I) (cp_671283_Reader_is l hl0 D I P672600 F672601 q672602 q672604 (D.2 1000 39) (D.2 1001 39) sb_39 p672605 p672606 p672607 p672608 p672609 p672610 qo672611 p672612 p672613 p672614 qo672615 qo672616 p672617 f672625 xt672626 hmq672602 hmq672604 heq672602 heq672604 (gx_sc 39 rfl rfl) (by omega) (by decide +kernel) bp672605 bp672606 bp672607 bp672608 bp672610 bp672612 bp672613 bp672614 bp672617 bf672625 x672630) dr_cX14_row_3 ⟨wr_9_141, wr_1_32, wr_9_144, by decide, rfl, (Nat.le_of_ble_eq_true rfl), (Nat.le_of_ble_eq_true rfl)⟩ wr_9_143 wr_p_84 hmq672602 heq672602 rfl (show 0 + 0 ≤ ((16 * (p672605.toInt - p672606.toInt)).toNat + 9) by first | omega | decide) (show 0 + 0 ≤ ((160 * (p672605.toInt - p672606.toInt)).toNat + 71) by first | omega | decide) (Nat.le_of_ble_eq_true rfl) (fun r672640 w672641 dc672637 ds672638 hp672639 => ?_) (fun _ _ _ _ _ z => z.elim)
  obtain ⟨o672642, rfl, rfl, hdc, hds, bo672642, x672643, ht672644⟩ := hp672639
  change G _ _ _ _ _ _ _ (.int o672642 :: _) _ _ _
  refine G_widen (cs' := 0) (sl' := 0) (by omega) (by omega) ?_
  refine G_if_eq 26 dr_cX14_row_6 (by decide +kernel) (fun hc672645 => ?_) (fun hc672645 => ?_)
  · have r672646 : o672642.toInt = 0 := gj_eq hc672645 (show Int32.toInt 0 = 0 by decide)
    have bo672642' : gB o672642 0 0 := ⟨by omega, by omega⟩
    refine G_aload_n 1 dr_cX14_row_26 rfl ?_
    refine G_aload_n 0 dr_cX14_row_27 rfl ?_
    refine G_iconst 2 dr_cX14_row_28 (by decide +kernel) ?_
    refine Gw_callV (As := [.int 2]) (gV_ok D I) (cp_671460_Reader_want l hl0 D I P672600 F672601 q672602 q672604 2 p672605 p672606 p672607 p672608 p672609 p672610 qo672611 p672612 p672613 p672614 qo672615 qo672616 p672617 f672625 xt672626 hmq672602 hmq672604 heq672602 heq672604 (gB_w (gBl (show Int32.toInt 2 = 2 by decide)) (by decide) (by decide)) bp672605 bp672606 bp672607 bp672608 bp672610 bp672612 bp672613 bp672614 bp672617 bf672625 (by omega) x672628 x672629 x672630 x672631) dr_cX14_row_29 ⟨wr_9_93, wr_1_32, wr_9_96, by decide, rfl, (Nat.le_of_ble_eq_true rfl), (Nat.le_of_ble_eq_true rfl)⟩ wr_9_95 wr_p_80 hmq672602 heq672602 rfl (show 0 + ((16 * (p672605.toInt - p672606.toInt)).toNat + 1) ≤ ((16 * (p672605.toInt - p672606.toInt)).toNat + 9) by first | omega | decide) (show 0 + ((160 * (p672605.toInt - p672606.toInt)).toNat + 7) ≤ ((160 * (p672605.toInt - p672606.toInt)).toNat + 71) by first | omega | decide) (Nat.le_of_ble_eq_true rfl) (fun r672650 w672651 dc672647 ds672648 hp672649 => ?_) (fun _ qx672663 _ dc672661 ds672662 hx => by obtain ⟨P672659, F672660, rfl, rfl, hsb672652, hfr672653, hq672654, hqn672655, hwr672656, hdc672657, hds672658, ht672664⟩ := hx; exact GT_outA rfl (show 0 + dc672661 ≤ ((16 * (p672605.toInt - p672606.toInt)).toNat + 9) by omega) (show 0 + ds672662 ≤ ((160 * (p672605.toInt - p672606.toInt)).toNat + 71) by omega) ⟨P672659, F672660, rfl, rfl, (rSub_tr (rSub_rf (P := P672600)) hsb672652), (rFr_v (show rFr [] P672600 F672601 F672660 from rFr_call (rSub_rf (P := P672600)) (rFr_rf (W := []) (P := P672600) (F := F672601)) hfr672653 (fun b hb hn => ⟨nm_n, nm_n⟩)) (fun b hn => nm_n)), hq672654, (fun z => hqn672655 ((rSub_rf (P := P672600)) _ z)), hwr672656, (by omega), (by omega), ⟨p672618, p672619, p672620, p672621, p672622, p672623, p672624, ((hfr672653 q672603 hmq672603 nm_n).trans heq672603), bp672618, bp672619, bp672622, bp672623, bp672624, x672634, x672632, x672633⟩, (fun R c1 c2 c3 c4 c5 => c1 o672642 bo672642 ht672644 r672646 ht672664)⟩)
    obtain ⟨P672679, F672680, o672665, o672666, o672667, o672668, q672669, xt672678, rfl, rfl, hsb672681, hfr672682, he672683, he672684, hdc, hds, bo672665, bo672666, bo672667, x672670, x672671, x672672, x672673, x672674, x672675, x672676, ht672677⟩ := hp672649
    have hm672685 : q672602 ∈ P672679 := hsb672681 q672602 hmq672602
    have hm672686 : q672603 ∈ P672679 := hsb672681 q672603 hmq672603
    have hm672687 : q672604 ∈ P672679 := hsb672681 q672604 hmq672604
    have hsb672688 : rSub P672600 P672679 := rSub_tr (rSub_rf (P := P672600)) hsb672681
    have he672689 : F672680 q672603 = .inr (20, [.int p672618, .int p672619, .int p672620, .int p672621, .int p672622, .int p672623, .int p672624]) := (hfr672682 q672603 hmq672603 (nm_c (rn_oo heq672603 heq672602 (by decide)) nm_n)).trans heq672603
    have hfr672690 : rFr [q672602] P672600 F672601 F672680 := rFr_call (rSub_rf (P := P672600)) (rFr_rf (W := []) (P := P672600) (F := F672601)) hfr672682 (fun b hb hn => ⟨nm_n, (nm_c (fun e => hn (e ▸ List.mem_cons_self)) nm_n)⟩)
    have bo672668 := gB_any o672668
    rw [show Int32.toInt 2 = 2 from by decide] at x672676
    change G _ _ _ _ _ _ _ (.int p672609 :: _) _ _ _
    refine G_widen (cs' := (16 * (o672665.toInt - p672606.toInt)).toNat) (sl' := (160 * (o672665.toInt - p672606.toInt)).toNat) (by omega) (by omega) ?_
    have bv672691 : gB p672609 0 99 := vP_g2 x672675
    have x672692 : p672606.toInt ≤ o672665.toInt := by omega
    have x672693 : p672606.toInt + 0 ≤ p672606.toInt := by omega
    have x672694 : p672606.toInt + 0 ≤ o672665.toInt := by omega
    have x672695 : prQ o672666 (p672606.toInt + 1) o672665 := prP_q x672671 x672693 (by omega)
    refine G_widen (cs' := (16 * (o672665.toInt - p672606.toInt) + 0 : Int).toNat) (sl' := (160 * (o672665.toInt - p672606.toInt) + 0 : Int).toNat) (by omega) (by omega) ?_
    refine Gp_put 1 hm672686 he672689 dr_cX14_row_32 (gk_X15 D I) (Nat.le_of_ble_eq_true rfl) wr_9_183 rfl rfl rfl (Nat.le_of_ble_eq_true rfl) (fun F672696 e672697 n672698 => ?_)
    have he672699 : F672696 q672602 = .inr (19, [.ref q672604, .int p672605, .int o672665, .int o672666, .int o672667, .int o672668, .int p672607, .ref q672669, .int p672612, .int p672613, .int p672614, .ref qo672615, .ref qo672616, .int p672617]) := (n672698 q672602 (rn_oo he672683 he672689 (by decide))).trans he672683
    have he672700 : F672696 q672604 = .inl (I .byte, 8192, .inl f672625) := (n672698 q672604 (rn_ao he672684 he672689)).trans he672684
    have he672701 : F672696 q672603 = .inr (20, [.int p672618, .int p672609, .int p672620, .int p672621, .int p672622, .int p672623, .int p672624]) := e672697
    have hfr672702 : rFr [q672603, q672602] P672600 F672601 F672696 := rFr_put hfr672690 n672698
    have tp672703 : tP I P672679 F672696 o672666 q672669 qo672616 qo672615 xt672678 := tP_put x672673 he672689 (by decide) n672698
    clear hsb672681 hfr672682 he672683 he672684 he672689 hfr672690; try clear r672640; try clear w672641; try clear dc672637; try clear ds672638; try clear hp672639; try clear r672650; try clear w672651; try clear dc672647; try clear ds672648; try clear hp672649
    refine G_aload_n 0 dr_cX14_row_35 rfl ?_
    refine G_ldcK (a := D.2 1000 40) dr_cX14_row_36 (fun _ _ _ h => gx_vk 40 rfl rfl h) ?_
    have hl40_672703 : (sb_40.length : Int) = 1 := rfl
    refine Gw_callV (As := [.ref (D.2 1000 40)]) (gV_ok D I) (cp_671365_Reader_want l hl0 D I P672679 F672696 q672602 q672604 (D.2 1000 40) (D.2 1001 40) sb_40 p672605 o672665 o672666 o672667 o672668 p672607 q672669 p672612 p672613 p672614 qo672615 qo672616 p672617 f672625 xt672678 hm672685 hm672687 he672699 he672700 (gx_sc 40 rfl rfl) (by omega) (by decide +kernel) bp672605 bo672665 bo672666 bo672667 bp672607 bp672612 bp672613 bp672614 bp672617 bf672625 (by omega) (hsb672688 _ x672628) (hsb672688 _ x672629) tp672703) dr_cX14_row_38 ⟨wr_9_137, wr_1_32, wr_9_140, by decide, rfl, (Nat.le_of_ble_eq_true rfl), (Nat.le_of_ble_eq_true rfl)⟩ wr_9_139 wr_p_83 hm672685 he672699 rfl (show (16 * (o672665.toInt - p672606.toInt) + 0 : Int).toNat + ((16 * (p672605.toInt - o672665.toInt)).toNat + 1) ≤ ((16 * (p672605.toInt - p672606.toInt)).toNat + 9) by first | omega | decide) (show (160 * (o672665.toInt - p672606.toInt) + 0 : Int).toNat + ((160 * (p672605.toInt - o672665.toInt)).toNat + 7) ≤ ((160 * (p672605.toInt - p672606.toInt)).toNat + 71) by first | omega | decide) (Nat.le_of_ble_eq_true rfl) (fun r672708 w672709 dc672705 ds672706 hp672707 => ?_) (fun _ qx672721 _ dc672719 ds672720 hx => by obtain ⟨P672717, F672718, rfl, rfl, hsb672710, hfr672711, hq672712, hqn672713, hwr672714, hdc672715, hds672716, ht672722⟩ := hx; exact GT_outA rfl (show (16 * (o672665.toInt - p672606.toInt) + 0 : Int).toNat + dc672719 ≤ ((16 * (p672605.toInt - p672606.toInt)).toNat + 9) by omega) (show (160 * (o672665.toInt - p672606.toInt) + 0 : Int).toNat + ds672720 ≤ ((160 * (p672605.toInt - p672606.toInt)).toNat + 71) by omega) ⟨P672717, F672718, rfl, rfl, (rSub_tr hsb672688 hsb672710), (show rFr [q672603, q672602] P672600 F672601 F672718 from rFr_call hsb672688 hfr672702 hfr672711 (fun b hb hn => ⟨(nm_c (fun e => hn (e ▸ List.mem_cons_self)) (nm_c (fun e => hn (e ▸ (List.mem_cons_of_mem _ List.mem_cons_self))) nm_n)), nm_n⟩)), hq672712, (fun z => hqn672713 (hsb672688 _ z)), hwr672714, (by omega), (by omega), ⟨p672618, p672609, p672620, p672621, p672622, p672623, p672624, ((hfr672711 q672603 hm672686 nm_n).trans he672701), bp672618, (gB_w bv672691 (by decide) (by decide)), bp672622, bp672623, bp672624, x672634, x672632, x672633⟩, (fun R c1 c2 c3 c4 c5 => c2 o672642 xt672678 o672665 o672666 o672667 o672668 bo672642 ht672644 r672646 bo672665 bo672666 bo672667 ht672677 ht672722)⟩)
    obtain ⟨P672736, F672737, o672723, o672724, o672725, o672726, q672727, xt672735, rfl, rfl, hsb672738, hfr672739, he672740, he672741, hdc, hds, bo672723, bo672724, bo672725, x672728, x672729, x672730, x672731, x672732, x672733, ht672734⟩ := hp672707
    have hm672742 : q672602 ∈ P672736 := hsb672738 q672602 hm672685
    have hm672743 : q672603 ∈ P672736 := hsb672738 q672603 hm672686
    have hm672744 : q672604 ∈ P672736 := hsb672738 q672604 hm672687
    have hsb672745 : rSub P672600 P672736 := rSub_tr hsb672688 hsb672738
    have he672746 : F672737 q672603 = .inr (20, [.int p672618, .int p672609, .int p672620, .int p672621, .int p672622, .int p672623, .int p672624]) := (hfr672739 q672603 hm672686 (nm_c (rn_oo he672701 he672699 (by decide)) nm_n)).trans he672701
    have hfr672747 : rFr [q672603, q672602] P672600 F672601 F672737 := rFr_call hsb672688 hfr672702 hfr672739 (fun b hb hn => ⟨(nm_c (fun e => hn (e ▸ List.mem_cons_self)) (nm_c (fun e => hn (e ▸ (List.mem_cons_of_mem _ List.mem_cons_self))) nm_n)), (nm_c (fun e => hn (e ▸ (List.mem_cons_of_mem _ List.mem_cons_self))) nm_n)⟩)
    have bo672726 := gB_any o672726
    change G _ _ _ _ _ _ _ _ _ _ _
    refine G_widen (cs' := (16 * (o672665.toInt - p672606.toInt) + 0 : Int).toNat + ((16 * (o672723.toInt - o672665.toInt)).toNat)) (sl' := (160 * (o672665.toInt - p672606.toInt) + 0 : Int).toNat + ((160 * (o672723.toInt - o672665.toInt)).toNat)) (by omega) (by omega) ?_
    have x672748 : p672606.toInt ≤ o672723.toInt := by omega
    have x672749 : p672606.toInt + 1 ≤ o672665.toInt := by have q := (prQ_le x672695 x672733); omega
    have x672750 : p672606.toInt + 1 ≤ o672723.toInt := by omega
    have x672751 : prQ o672724 (p672606.toInt + 2) o672723 := prP_q x672729 x672749 (by omega)
    refine G_widen (cs' := (16 * (o672723.toInt - p672606.toInt) + 0 : Int).toNat) (sl' := (160 * (o672723.toInt - p672606.toInt) + 0 : Int).toNat) (by omega) (by omega) ?_
    clear hm672685 hm672686 hm672687 hsb672688 he672699 he672700 he672701 hfr672702 hsb672738 hfr672739; try clear r672708; try clear w672709; try clear dc672705; try clear ds672706; try clear hp672707
    refine G_aload_n 0 dr_cX14_row_41 rfl ?_
    refine G_ldcK (a := D.2 1000 41) dr_cX14_row_42 (fun _ _ _ h => gx_vk 41 rfl rfl h) ?_
    have hl41_672751 : (sb_41.length : Int) = 2 := rfl
    refine Gw_callV (As := [.ref (D.2 1000 41)]) (gV_ok D I) (cp_671283_Reader_is l hl0 D I P672736 F672737 q672602 q672604 (D.2 1000 41) (D.2 1001 41) sb_41 p672605 o672723 o672724 o672725 o672726 o672666 q672727 p672612 p672613 p672614 qo672615 qo672616 p672617 f672625 xt672735 hm672742 hm672744 he672740 he672741 (gx_sc 41 rfl rfl) (by omega) (by decide +kernel) bp672605 bo672723 bo672724 bo672725 bo672666 bp672612 bp672613 bp672614 bp672617 bf672625 x672731) dr_cX14_row_44 ⟨wr_9_141, wr_1_32, wr_9_144, by decide, rfl, (Nat.le_of_ble_eq_true rfl), (Nat.le_of_ble_eq_true rfl)⟩ wr_9_143 wr_p_84 hm672742 he672740 rfl (show (16 * (o672723.toInt - p672606.toInt) + 0 : Int).toNat + 0 ≤ ((16 * (p672605.toInt - p672606.toInt)).toNat + 9) by first | omega | decide) (show (160 * (o672723.toInt - p672606.toInt) + 0 : Int).toNat + 0 ≤ ((160 * (p672605.toInt - p672606.toInt)).toNat + 71) by first | omega | decide) (Nat.le_of_ble_eq_true rfl) (fun r672756 w672757 dc672753 ds672754 hp672755 => ?_) (fun _ _ _ _ _ z => z.elim)
    obtain ⟨o672758, rfl, rfl, hdc, hds, bo672758, x672759, ht672760⟩ := hp672755
    change G _ _ _ _ _ _ _ (.int o672758 :: _) _ _ _
    refine G_widen (cs' := (16 * (o672723.toInt - p672606.toInt) + 0 : Int).toNat + 0) (sl' := (160 * (o672723.toInt - p672606.toInt) + 0 : Int).toNat + 0) (by omega) (by omega) ?_
    refine G_if_eq 61 dr_cX14_row_47 (by decide +kernel) (fun hc672761 => ?_) (fun hc672761 => ?_)
    · have r672762 : o672758.toInt = 0 := gj_eq hc672761 (show Int32.toInt 0 = 0 by decide)
      have bo672758' : gB o672758 0 0 := ⟨by omega, by omega⟩
      refine G_aload_n 0 dr_cX14_row_61 rfl ?_
      refine G_aload_n 1 dr_cX14_row_62 rfl ?_
      refine G_iconst 0 dr_cX14_row_63 (by decide +kernel) ?_
      refine Gw_callV (As := [.ref q672603, .int 0]) (gV_ok D I) (cp_671631_Reader_operand l hl0 D I P672736 F672737 q672602 q672603 q672604 0 p672605 o672723 o672724 o672725 o672726 o672666 q672727 p672612 p672613 p672614 qo672615 qo672616 p672617 p672618 p672609 p672620 p672621 p672622 p672623 p672624 f672625 xt672735 hm672742 hm672743 hm672744 he672740 he672746 he672741 (gB_w (gBl (show Int32.toInt 0 = 0 by decide)) (by decide) (by decide)) bp672605 bo672723 bo672724 bo672725 bo672666 bp672612 bp672613 bp672614 bp672617 bp672618 (gB_w bv672691 (by decide) (by decide)) bp672622 bp672623 bp672624 bf672625 (by omega) (hsb672745 _ x672628) (hsb672745 _ x672629) x672731 x672732 x672632 x672633 x672634) dr_cX14_row_64 ⟨wr_10_89, wr_1_32, wr_10_92, by decide, rfl, (Nat.le_of_ble_eq_true rfl), (Nat.le_of_ble_eq_true rfl)⟩ wr_10_91 wr_p_89 hm672742 he672740 rfl (show (16 * (o672723.toInt - p672606.toInt) + 0 : Int).toNat + 0 + ((16 * (p672605.toInt - o672723.toInt)).toNat + 1) ≤ ((16 * (p672605.toInt - p672606.toInt)).toNat + 9) by first | omega | decide) (show (160 * (o672723.toInt - p672606.toInt) + 0 : Int).toNat + 0 + ((160 * (p672605.toInt - o672723.toInt)).toNat + 7) ≤ ((160 * (p672605.toInt - p672606.toInt)).toNat + 71) by first | omega | decide) (Nat.le_of_ble_eq_true rfl) (fun r672766 w672767 dc672763 ds672764 hp672765 => ?_) (fun _ qx672779 _ dc672777 ds672778 hx => by obtain ⟨P672775, F672776, rfl, rfl, hsb672768, hfr672769, hq672770, hqn672771, hwr672772, hdc672773, hds672774, x672780, ht672781⟩ := hx; exact GT_outA rfl (show (16 * (o672723.toInt - p672606.toInt) + 0 : Int).toNat + 0 + dc672777 ≤ ((16 * (p672605.toInt - p672606.toInt)).toNat + 9) by omega) (show (160 * (o672723.toInt - p672606.toInt) + 0 : Int).toNat + 0 + ds672778 ≤ ((160 * (p672605.toInt - p672606.toInt)).toNat + 71) by omega) ⟨P672775, F672776, rfl, rfl, (rSub_tr hsb672745 hsb672768), (show rFr [q672603, q672602] P672600 F672601 F672776 from rFr_call hsb672745 hfr672747 hfr672769 (fun b hb hn => ⟨(nm_c (fun e => hn (e ▸ List.mem_cons_self)) (nm_c (fun e => hn (e ▸ (List.mem_cons_of_mem _ List.mem_cons_self))) nm_n)), nm_n⟩)), hq672770, (fun z => hqn672771 (hsb672745 _ z)), hwr672772, (by omega), (by omega), ⟨p672618, p672609, p672620, p672621, p672622, p672623, p672624, ((hfr672769 q672603 hm672743 nm_n).trans he672746), bp672618, (gB_w bv672691 (by decide) (by decide)), bp672622, bp672623, bp672624, x672634, x672632, x672633⟩, (fun R c1 c2 c3 c4 c5 => c3 o672642 xt672678 o672665 o672666 o672667 o672668 xt672735 o672723 o672724 o672725 o672726 o672758 bo672642 ht672644 r672646 bo672665 bo672666 bo672667 ht672677 bo672723 bo672724 bo672725 ht672734 bo672758 ht672760 r672762 ht672781)⟩)
      obtain ⟨P672801, F672802, o672782, o672783, o672784, o672785, q672786, o672787, o672788, o672789, o672790, xt672800, rfl, rfl, hsb672803, hfr672804, he672805, he672806, he672807, hdc, hds, bo672782, bo672783, bo672784, bo672789, bo672790, x672791, x672792, x672793, x672794, x672795, x672796, x672797, x672798, ht672799⟩ := hp672765
      have hm672808 : q672602 ∈ P672801 := hsb672803 q672602 hm672742
      have hm672809 : q672603 ∈ P672801 := hsb672803 q672603 hm672743
      have hm672810 : q672604 ∈ P672801 := hsb672803 q672604 hm672744
      have hsb672811 : rSub P672600 P672801 := rSub_tr hsb672745 hsb672803
      have hfr672812 : rFr [q672603, q672602] P672600 F672601 F672802 := rFr_call hsb672745 hfr672747 hfr672804 (fun b hb hn => ⟨(nm_c (fun e => hn (e ▸ List.mem_cons_self)) (nm_c (fun e => hn (e ▸ (List.mem_cons_of_mem _ List.mem_cons_self))) nm_n)), (nm_c (fun e => hn (e ▸ List.mem_cons_self)) (nm_c (fun e => hn (e ▸ (List.mem_cons_of_mem _ List.mem_cons_self))) nm_n))⟩)
      have bo672785 := gB_any o672785
      have bo672787 := gB_any o672787
      have bo672788 := gB_any o672788
      change G _ _ _ _ _ _ _ _ _ _ _
      refine G_widen (cs' := (16 * (o672723.toInt - p672606.toInt) + 0 : Int).toNat + 0 + ((16 * (o672782.toInt - o672723.toInt)).toNat)) (sl' := (160 * (o672723.toInt - p672606.toInt) + 0 : Int).toNat + 0 + ((160 * (o672782.toInt - o672723.toInt)).toNat)) (by omega) (by omega) ?_
      have x672813 : p672606.toInt ≤ o672782.toInt := by omega
      have x672814 : p672606.toInt + 2 ≤ o672723.toInt := by have q := (prQ_le x672751 x672798); omega
      have x672815 : p672606.toInt + 2 ≤ o672782.toInt := by omega
      have x672816 : prQ o672783 (p672606.toInt + 3) o672782 := prP_q x672792 x672814 (by omega)
      refine G_widen (cs' := (16 * (o672782.toInt - p672606.toInt) + 0 : Int).toNat) (sl' := (160 * (o672782.toInt - p672606.toInt) + 0 : Int).toNat) (by omega) (by omega) ?_
      clear he672740 he672741 hm672742 hm672743 hm672744 hsb672745 he672746 hfr672747 hsb672803 hfr672804; try clear r672756; try clear w672757; try clear dc672753; try clear ds672754; try clear hp672755; try clear r672766; try clear w672767; try clear dc672763; try clear ds672764; try clear hp672765
      refine G_aload_n 1 dr_cX14_row_67 rfl ?_
      refine G_aload_n 0 dr_cX14_row_68 rfl ?_
      refine Gp_get 3 hm672808 he672806 dr_cX14_row_69 (gk_X14 D I) (Nat.le_of_ble_eq_true rfl) wr_9_39 rfl ?_
      refine G_iconst 5 dr_cX14_row_72 (by decide +kernel) ?_
      refine G_icmp_ne 86 dr_cX14_row_73 (by decide +kernel) (fun hc672817 => ?_) (fun hc672817 => ?_)
      · have r672818 : o672783.toInt ≠ 5 := gj_neq hc672817 (show Int32.toInt 5 = 5 by decide)
        refine G_widen (cs' := (16 * (o672782.toInt - p672606.toInt) + 8 : Int).toNat) (sl' := (160 * (o672782.toInt - p672606.toInt) + 64 : Int).toNat) (by omega) (by omega) ?_
        refine G_iconst 0 dr_cX14_row_86 (by decide +kernel) ?_
        refine Gp_put 0 hm672809 he672805 dr_cX14_row_87 (gk_X15 D I) (Nat.le_of_ble_eq_true rfl) wr_9_179 rfl rfl rfl (Nat.le_of_ble_eq_true rfl) (fun F672819 e672820 n672821 => ?_)
        have he672822 : F672819 q672602 = .inr (19, [.ref q672604, .int p672605, .int o672782, .int o672783, .int o672784, .int o672785, .int o672724, .ref q672786, .int p672612, .int p672613, .int p672614, .ref qo672615, .ref qo672616, .int p672617]) := (n672821 q672602 (rn_oo he672806 he672805 (by decide))).trans he672806
        have he672823 : F672819 q672604 = .inl (I .byte, 8192, .inl f672625) := (n672821 q672604 (rn_ao he672807 he672805)).trans he672807
        have he672824 : F672819 q672603 = .inr (20, [.int 0, .int p672609, .int o672787, .int o672788, .int p672622, .int o672789, .int o672790]) := e672820
        have hfr672825 : rFr [q672603, q672602] P672600 F672601 F672819 := rFr_put' List.mem_cons_self hfr672812 n672821
        have tp672826 : tP I P672801 F672819 o672783 q672786 qo672616 qo672615 xt672800 := tP_put x672794 he672805 (by decide) n672821
        clear he672805 he672806 he672807 hfr672812
        refine G_aload_n 1 dr_cX14_row_90 rfl ?_
        refine Gp_get 0 hm672809 he672824 dr_cX14_row_91 (gk_X15 D I) (Nat.le_of_ble_eq_true rfl) wr_9_179 rfl ?_
        refine G_if_ne 98 dr_cX14_row_94 (by decide +kernel) (fun hc => absurd hc (by decide)) (fun _ => ?_)
        exact G_vretA dr_cX14_row_97 rfl (show (16 * (o672782.toInt - p672606.toInt) + 8 : Int).toNat ≤ ((16 * (p672605.toInt - p672606.toInt)).toNat + 9) by omega) (show (160 * (o672782.toInt - p672606.toInt) + 64 : Int).toNat ≤ ((160 * (p672605.toInt - p672606.toInt)).toNat + 71) by omega) ⟨P672801, F672819, o672782, o672783, o672784, o672785, o672724, q672786, 0, p672609, o672787, o672788, o672789, o672790, xt672800, rfl, rfl, hsb672811, hfr672825, he672824, he672822, he672823, (by omega), (by omega), bo672782, bo672783, bo672784, bo672724, (gB_w (gBl (show Int32.toInt 0 = 0 by decide)) (by decide) (by decide)), (gB_w bv672691 (by decide) (by decide)), bo672789, bo672790, (by have qa0 : Int32.toInt 0 = 0 := (by decide); omega), (prP_le x672792 (by omega)), (by have qa0 : Int32.toInt 0 = 0 := (by decide); omega), tp672826, x672795, x672796, x672797, (Or.inl (by decide)), (Or.inl (by decide)), (show nzK p672607 by unfold nzK; omega), ⟨by omega, Or.inr (by omega)⟩, (fun R c1 c2 c3 c4 c5 => c1 o672642 xt672678 o672665 o672666 o672667 o672668 xt672735 o672723 o672724 o672725 o672726 o672758 xt672800 o672782 o672783 o672784 o672785 o672787 o672788 o672789 o672790 bo672642 ht672644 r672646 bo672665 bo672666 bo672667 ht672677 bo672723 bo672724 bo672725 ht672734 bo672758 ht672760 r672762 bo672782 bo672783 bo672784 bo672789 bo672790 ht672799 r672818)⟩
      · have r672827 : o672783.toInt = 5 := gj_eq hc672817 (show Int32.toInt 5 = 5 by decide)
        have bo672783' : gB o672783 5 5 := ⟨by omega, by omega⟩
        refine G_aload_n 0 dr_cX14_row_76 rfl ?_
        refine Gp_get 7 hm672808 he672806 dr_cX14_row_77 (gk_X14 D I) (Nat.le_of_ble_eq_true rfl) wr_9_43 rfl ?_
        obtain ⟨q672828, p672829, p672830, hm672831, he672832, hm672833, he672834, bq672828, x672835, bp672830, hg672836, hg672837⟩ := x672794.2 (by omega)
        have bp672829 := gB_any p672829
        refine Gw_callSN (As := [.ref q672786]) (gV_ok D I) (cp_671871_SpillForgeModel_operation l hl0 D I P672801 F672802 q672786 q672828 p672829 p672830 xt672800.2 xt672800.1 hm672831 hm672833 he672832 he672834 bp672830 bq672828 (by have qa0 : Int32.toInt 0 = 0 := (by decide); omega) (by have qa0 : Int32.toInt 0 = 0 := (by decide); omega)) dr_cX14_row_80 ⟨(fun _ _ _ h => gn_w 81 rfl h), wr_1_14, wr_10_97, by decide, rfl, (Nat.le_of_ble_eq_true rfl), (Nat.le_of_ble_eq_true rfl)⟩ wr_10_96 (show (16 * (o672782.toInt - p672606.toInt) + 0 : Int).toNat + 8 ≤ ((16 * (p672605.toInt - p672606.toInt)).toNat + 9) by first | omega | decide) (show (160 * (o672782.toInt - p672606.toInt) + 0 : Int).toNat + 64 ≤ ((160 * (p672605.toInt - p672606.toInt)).toNat + 71) by first | omega | decide) (Nat.le_of_ble_eq_true rfl) (fun r672841 w672842 dc672838 ds672839 hp672840 => ?_)
        obtain ⟨P672847, F672848, o672843, rfl, rfl, hsb672849, hfr672850, he672851, he672852, hdc, hds, bo672843, x672844, x672845, ht672846⟩ := hp672840
        have hm672853 : q672602 ∈ P672847 := hsb672849 q672602 hm672808
        have hm672854 : q672603 ∈ P672847 := hsb672849 q672603 hm672809
        have hm672855 : q672604 ∈ P672847 := hsb672849 q672604 hm672810
        have hm672856 : q672786 ∈ P672847 := hsb672849 q672786 hm672831
        have hm672857 : q672828 ∈ P672847 := hsb672849 q672828 hm672833
        have hsb672858 : rSub P672600 P672847 := rSub_tr hsb672811 hsb672849
        have he672859 : F672848 q672603 = .inr (20, [.int p672618, .int p672609, .int o672787, .int o672788, .int p672622, .int o672789, .int o672790]) := (hfr672850 q672603 hm672809 nm_n).trans he672805
        have he672860 : F672848 q672602 = .inr (19, [.ref q672604, .int p672605, .int o672782, .int o672783, .int o672784, .int o672785, .int o672724, .ref q672786, .int p672612, .int p672613, .int p672614, .ref qo672615, .ref qo672616, .int p672617]) := (hfr672850 q672602 hm672808 nm_n).trans he672806
        have he672861 : F672848 q672604 = .inl (I .byte, 8192, .inl f672625) := (hfr672850 q672604 hm672810 nm_n).trans he672807
        have hfr672862 : rFr [q672603, q672602] P672600 F672601 F672848 := rFr_call hsb672811 hfr672812 hfr672850 (fun b hb hn => ⟨(nm_c (fun e => hn (e ▸ List.mem_cons_self)) (nm_c (fun e => hn (e ▸ (List.mem_cons_of_mem _ List.mem_cons_self))) nm_n)), nm_n⟩)
        have tp672863 : tP I P672847 F672848 o672783 q672786 qo672616 qo672615 xt672800 := tP_new x672794 hsb672849 (fun b hb => hfr672850 b hb (fun z => by cases z)) (Or.inl rfl) (Or.inl rfl)
        change G _ _ _ _ _ _ _ (.int o672843 :: _) _ _ _
        refine G_widen (cs' := (16 * (o672782.toInt - p672606.toInt) + 0 : Int).toNat + 8) (sl' := (160 * (o672782.toInt - p672606.toInt) + 0 : Int).toNat + 64) (by omega) (by omega) ?_
        refine G_widen (cs' := (16 * (o672782.toInt - p672606.toInt) + 8 : Int).toNat) (sl' := (160 * (o672782.toInt - p672606.toInt) + 64 : Int).toNat) (by omega) (by omega) ?_
        refine G_goto 87 dr_cX14_row_83 (by decide +kernel) ?_
        refine Gp_put 0 hm672854 he672859 dr_cX14_row_87 (gk_X15 D I) (Nat.le_of_ble_eq_true rfl) wr_9_179 rfl rfl rfl (Nat.le_of_ble_eq_true rfl) (fun F672864 e672865 n672866 => ?_)
        have he672867 : F672864 q672602 = .inr (19, [.ref q672604, .int p672605, .int o672782, .int o672783, .int o672784, .int o672785, .int o672724, .ref q672786, .int p672612, .int p672613, .int p672614, .ref qo672615, .ref qo672616, .int p672617]) := (n672866 q672602 (rn_oo he672860 he672859 (by decide))).trans he672860
        have he672868 : F672864 q672604 = .inl (I .byte, 8192, .inl f672625) := (n672866 q672604 (rn_ao he672861 he672859)).trans he672861
        have he672869 : F672864 q672786 = .inr (0, [.ref q672828, .int 0, .int p672829, .int p672830]) := (n672866 q672786 (rn_oo he672851 he672859 (by decide))).trans he672851
        have he672870 : F672864 q672828 = .inl (I .byte, xt672800.1, .inl xt672800.2) := (n672866 q672828 (rn_ao he672852 he672859)).trans he672852
        have he672871 : F672864 q672603 = .inr (20, [.int o672843, .int p672609, .int o672787, .int o672788, .int p672622, .int o672789, .int o672790]) := e672865
        have hfr672872 : rFr [q672603, q672602] P672600 F672601 F672864 := rFr_put' List.mem_cons_self hfr672862 n672866
        have tp672873 : tP I P672847 F672864 o672783 q672786 qo672616 qo672615 xt672800 := tP_put tp672863 he672859 (by decide) n672866
        clear he672805 he672806 he672807 hm672808 hm672809 hm672810 hsb672811 hfr672812 hm672831 he672832 hm672833 he672834 hg672836 hg672837 hsb672849 hfr672850 he672851 he672852 he672859 he672860 he672861 hfr672862; try clear r672841; try clear w672842; try clear dc672838; try clear ds672839; try clear hp672840
        refine G_aload_n 1 dr_cX14_row_90 rfl ?_
        refine Gp_get 0 hm672854 he672871 dr_cX14_row_91 (gk_X15 D I) (Nat.le_of_ble_eq_true rfl) wr_9_179 rfl ?_
        refine G_if_ne 98 dr_cX14_row_94 (by decide +kernel) (fun hc672874 => ?_) (fun hc672874 => ?_)
        · have r672875 : o672843.toInt ≠ 0 := gj_neq hc672874 (show Int32.toInt 0 = 0 by decide)
          have bo672843' : gB o672843 1 14 := ⟨by omega, by omega⟩
          refine G_aload_n 0 dr_cX14_row_98 rfl ?_
          refine Gw_callV (As := []) (gV_ok D I) (cp_669296_Reader_next l hl0 D I P672847 F672864 q672602 q672604 p672605 o672782 o672783 o672784 o672785 o672724 q672786 p672612 p672613 p672614 qo672615 qo672616 p672617 f672625 hm672853 hm672855 he672867 he672868 bp672605 bo672782 (gB_w bo672783' (by decide) (by decide)) bo672784 bo672724 bp672612 bp672613 bp672614 bp672617 bf672625 (by have qa0 : Int32.toInt 0 = 0 := (by decide); omega) (hsb672858 _ x672628) (hsb672858 _ x672629)) dr_cX14_row_99 ⟨wr_7_215, wr_1_32, wr_7_218, by decide, rfl, (Nat.le_of_ble_eq_true rfl), (Nat.le_of_ble_eq_true rfl)⟩ wr_7_217 wr_p_75 hm672853 he672867 rfl (show (16 * (o672782.toInt - p672606.toInt) + 8 : Int).toNat + ((16 * (p672605.toInt - o672782.toInt)).toNat) ≤ ((16 * (p672605.toInt - p672606.toInt)).toNat + 9) by first | omega | decide) (show (160 * (o672782.toInt - p672606.toInt) + 64 : Int).toNat + ((160 * (p672605.toInt - o672782.toInt)).toNat) ≤ ((160 * (p672605.toInt - p672606.toInt)).toNat + 71) by first | omega | decide) (Nat.le_of_ble_eq_true rfl) (fun r672879 w672880 dc672876 ds672877 hp672878 => ?_) (fun _ _ _ _ _ z => z.elim)
          obtain ⟨P672893, F672894, o672881, o672882, o672883, o672884, q672885, xt672892, rfl, rfl, hsb672895, hfr672896, he672897, he672898, hdc, hds, bo672881, bo672882, bo672883, x672886, x672887, x672888, x672889, x672890, ht672891⟩ := hp672878
          have hm672899 : q672602 ∈ P672893 := hsb672895 q672602 hm672853
          have hm672900 : q672603 ∈ P672893 := hsb672895 q672603 hm672854
          have hm672901 : q672604 ∈ P672893 := hsb672895 q672604 hm672855
          have hm672902 : q672786 ∈ P672893 := hsb672895 q672786 hm672856
          have hm672903 : q672828 ∈ P672893 := hsb672895 q672828 hm672857
          have hsb672904 : rSub P672600 P672893 := rSub_tr hsb672858 hsb672895
          have he672905 : F672894 q672603 = .inr (20, [.int o672843, .int p672609, .int o672787, .int o672788, .int p672622, .int o672789, .int o672790]) := (hfr672896 q672603 hm672854 (nm_c (rn_oo he672871 he672867 (by decide)) nm_n)).trans he672871
          have he672906 : F672894 q672786 = .inr (0, [.ref q672828, .int 0, .int p672829, .int p672830]) := (hfr672896 q672786 hm672856 (nm_c (rn_oo he672869 he672867 (by decide)) nm_n)).trans he672869
          have he672907 : F672894 q672828 = .inl (I .byte, xt672800.1, .inl xt672800.2) := (hfr672896 q672828 hm672857 (nm_c (rn_ao he672870 he672867) nm_n)).trans he672870
          have hfr672908 : rFr [q672603, q672602] P672600 F672601 F672894 := rFr_call hsb672858 hfr672872 hfr672896 (fun b hb hn => ⟨(nm_c (fun e => hn (e ▸ List.mem_cons_self)) (nm_c (fun e => hn (e ▸ (List.mem_cons_of_mem _ List.mem_cons_self))) nm_n)), (nm_c (fun e => hn (e ▸ (List.mem_cons_of_mem _ List.mem_cons_self))) nm_n)⟩)
          have bo672884 := gB_any o672884
          change G _ _ _ _ _ _ _ _ _ _ _
          refine G_widen (cs' := (16 * (o672782.toInt - p672606.toInt) + 8 : Int).toNat + ((16 * (o672881.toInt - o672782.toInt)).toNat)) (sl' := (160 * (o672782.toInt - p672606.toInt) + 64 : Int).toNat + ((160 * (o672881.toInt - o672782.toInt)).toNat)) (by omega) (by omega) ?_
          have x672909 : p672606.toInt ≤ o672881.toInt := by omega
          have x672910 : p672606.toInt + 2 ≤ o672782.toInt := by have q := (prQ_le x672816 (show nzK o672783 by unfold nzK; omega)); omega
          have x672911 : p672606.toInt + 2 ≤ o672881.toInt := by omega
          have x672912 : prQ o672882 (p672606.toInt + 3) o672881 := prP_q x672887 x672910 (by omega)
          refine G_widen (cs' := (16 * (o672881.toInt - p672606.toInt) + 8 : Int).toNat) (sl' := (160 * (o672881.toInt - p672606.toInt) + 64 : Int).toNat) (by omega) (by omega) ?_
          clear bp672830 bp672829 hm672853 hm672854 hm672855 hm672856 hm672857 hsb672858 he672867 he672868 he672869 he672870 he672871 hfr672872 hsb672895 hfr672896 hm672902 hm672903 he672906 he672907; try clear x672670; try clear x672671; try clear x672672; try clear x672692; try clear x672694; try clear x672695; try clear x672728; try clear x672729; try clear x672749; try clear r672879; try clear w672880; try clear dc672876; try clear ds672877; try clear hp672878
          refine G_aload_n 0 dr_cX14_row_102 rfl ?_
          refine G_aload_n 1 dr_cX14_row_103 rfl ?_
          refine G_iconst 1 dr_cX14_row_104 (by decide +kernel) ?_
          refine Gw_callV (As := [.ref q672603, .int 1]) (gV_ok D I) (cp_671631_Reader_operand l hl0 D I P672893 F672894 q672602 q672603 q672604 1 p672605 o672881 o672882 o672883 o672884 o672783 q672885 p672612 p672613 p672614 qo672615 qo672616 p672617 o672843 p672609 o672787 o672788 p672622 o672789 o672790 f672625 xt672892 hm672899 hm672900 hm672901 he672897 he672905 he672898 (gB_w (gBl (show Int32.toInt 1 = 1 by decide)) (by decide) (by decide)) bp672605 bo672881 bo672882 bo672883 (gB_w bo672783' (by decide) (by decide)) bp672612 bp672613 bp672614 bp672617 (gB_w bo672843' (by decide) (by decide)) (gB_w bv672691 (by decide) (by decide)) bp672622 bo672789 bo672790 bf672625 (by omega) (hsb672904 _ x672628) (hsb672904 _ x672629) x672889 x672890 x672796 x672797 (opP_of (gB_w bo672843' (by decide) (by decide)))) dr_cX14_row_105 ⟨wr_10_89, wr_1_32, wr_10_92, by decide, rfl, (Nat.le_of_ble_eq_true rfl), (Nat.le_of_ble_eq_true rfl)⟩ wr_10_91 wr_p_89 hm672899 he672897 rfl (show (16 * (o672881.toInt - p672606.toInt) + 8 : Int).toNat + ((16 * (p672605.toInt - o672881.toInt)).toNat + 1) ≤ ((16 * (p672605.toInt - p672606.toInt)).toNat + 9) by first | omega | decide) (show (160 * (o672881.toInt - p672606.toInt) + 64 : Int).toNat + ((160 * (p672605.toInt - o672881.toInt)).toNat + 7) ≤ ((160 * (p672605.toInt - p672606.toInt)).toNat + 71) by first | omega | decide) (Nat.le_of_ble_eq_true rfl) (fun r672916 w672917 dc672913 ds672914 hp672915 => ?_) (fun _ qx672929 _ dc672927 ds672928 hx => by obtain ⟨P672925, F672926, rfl, rfl, hsb672918, hfr672919, hq672920, hqn672921, hwr672922, hdc672923, hds672924, x672930, ht672931⟩ := hx; exact GT_outA rfl (show (16 * (o672881.toInt - p672606.toInt) + 8 : Int).toNat + dc672927 ≤ ((16 * (p672605.toInt - p672606.toInt)).toNat + 9) by omega) (show (160 * (o672881.toInt - p672606.toInt) + 64 : Int).toNat + ds672928 ≤ ((160 * (p672605.toInt - p672606.toInt)).toNat + 71) by omega) ⟨P672925, F672926, rfl, rfl, (rSub_tr hsb672904 hsb672918), (show rFr [q672603, q672602] P672600 F672601 F672926 from rFr_call hsb672904 hfr672908 hfr672919 (fun b hb hn => ⟨(nm_c (fun e => hn (e ▸ List.mem_cons_self)) (nm_c (fun e => hn (e ▸ (List.mem_cons_of_mem _ List.mem_cons_self))) nm_n)), nm_n⟩)), hq672920, (fun z => hqn672921 (hsb672904 _ z)), hwr672922, (by omega), (by omega), ⟨o672843, p672609, o672787, o672788, p672622, o672789, o672790, ((hfr672919 q672603 hm672900 nm_n).trans he672905), (gB_w bo672843' (by decide) (by decide)), (gB_w bv672691 (by decide) (by decide)), bp672622, bo672789, bo672790, (opP_of (gB_w bo672843' (by decide) (by decide))), x672796, x672797⟩, (fun R c1 c2 c3 c4 c5 => c4 o672642 xt672678 o672665 o672666 o672667 o672668 xt672735 o672723 o672724 o672725 o672726 o672758 xt672800 o672782 o672783 o672784 o672785 o672787 o672788 o672789 o672790 o672843 xt672892 o672881 o672882 o672883 o672884 bo672642 ht672644 r672646 bo672665 bo672666 bo672667 ht672677 bo672723 bo672724 bo672725 ht672734 bo672758 ht672760 r672762 bo672782 bo672783 bo672784 bo672789 bo672790 ht672799 r672827 bo672843 ht672846 r672875 bo672881 bo672882 bo672883 ht672891 ht672931)⟩)
          obtain ⟨P672951, F672952, o672932, o672933, o672934, o672935, q672936, o672937, o672938, o672939, o672940, xt672950, rfl, rfl, hsb672953, hfr672954, he672955, he672956, he672957, hdc, hds, bo672932, bo672933, bo672934, bo672939, bo672940, x672941, x672942, x672943, x672944, x672945, x672946, x672947, x672948, ht672949⟩ := hp672915
          have hm672958 : q672602 ∈ P672951 := hsb672953 q672602 hm672899
          have hm672959 : q672603 ∈ P672951 := hsb672953 q672603 hm672900
          have hm672960 : q672604 ∈ P672951 := hsb672953 q672604 hm672901
          have hsb672961 : rSub P672600 P672951 := rSub_tr hsb672904 hsb672953
          have hfr672962 : rFr [q672603, q672602] P672600 F672601 F672952 := rFr_call hsb672904 hfr672908 hfr672954 (fun b hb hn => ⟨(nm_c (fun e => hn (e ▸ List.mem_cons_self)) (nm_c (fun e => hn (e ▸ (List.mem_cons_of_mem _ List.mem_cons_self))) nm_n)), (nm_c (fun e => hn (e ▸ List.mem_cons_self)) (nm_c (fun e => hn (e ▸ (List.mem_cons_of_mem _ List.mem_cons_self))) nm_n))⟩)
          have bo672935 := gB_any o672935
          have bo672937 := gB_any o672937
          have bo672938 := gB_any o672938
          change G _ _ _ _ _ _ _ _ _ _ _
          refine G_widen (cs' := (16 * (o672881.toInt - p672606.toInt) + 8 : Int).toNat + ((16 * (o672932.toInt - o672881.toInt)).toNat)) (sl' := (160 * (o672881.toInt - p672606.toInt) + 64 : Int).toNat + ((160 * (o672932.toInt - o672881.toInt)).toNat)) (by omega) (by omega) ?_
          have x672963 : p672606.toInt + 2 ≤ o672881.toInt := by have q := (prQ_le x672912 x672948); omega
          have x672964 : p672606.toInt + 2 ≤ o672932.toInt := by omega
          have x672965 : prQ o672933 (p672606.toInt + 3) o672932 := prP_q x672942 x672963 (by omega)
          exact G_vretA dr_cX14_row_108 rfl (show (16 * (o672881.toInt - p672606.toInt) + 8 : Int).toNat + ((16 * (o672932.toInt - o672881.toInt)).toNat) ≤ ((16 * (p672605.toInt - p672606.toInt)).toNat + 9) by omega) (show (160 * (o672881.toInt - p672606.toInt) + 64 : Int).toNat + ((160 * (o672932.toInt - o672881.toInt)).toNat) ≤ ((160 * (p672605.toInt - p672606.toInt)).toNat + 71) by omega) ⟨P672951, F672952, o672932, o672933, o672934, o672935, o672882, q672936, o672843, p672609, o672937, o672938, o672939, o672940, xt672950, rfl, rfl, hsb672961, hfr672962, he672955, he672956, he672957, (by omega), (by omega), bo672932, bo672933, bo672934, bo672882, (gB_w bo672843' (by decide) (by decide)), (gB_w bv672691 (by decide) (by decide)), bo672939, bo672940, (by omega), (prP_le x672942 (by omega)), (by omega), x672944, x672945, x672946, x672947, (opP_of (gB_w bo672843' (by decide) (by decide))), (Or.inl (by omega)), (show nzK p672607 by unfold nzK; omega), ⟨by omega, Or.inr (by omega)⟩, (fun R c1 c2 c3 c4 c5 => c2 o672642 xt672678 o672665 o672666 o672667 o672668 xt672735 o672723 o672724 o672725 o672726 o672758 xt672800 o672782 o672783 o672784 o672785 o672787 o672788 o672789 o672790 o672843 xt672892 o672881 o672882 o672883 o672884 xt672950 o672932 o672933 o672934 o672935 o672937 o672938 o672939 o672940 bo672642 ht672644 r672646 bo672665 bo672666 bo672667 ht672677 bo672723 bo672724 bo672725 ht672734 bo672758 ht672760 r672762 bo672782 bo672783 bo672784 bo672789 bo672790 ht672799 r672827 bo672843 ht672846 r672875 bo672881 bo672882 bo672883 ht672891 bo672932 bo672933 bo672934 bo672939 bo672940 ht672949)⟩
        · have r672966 : o672843.toInt = 0 := gj_eq hc672874 (show Int32.toInt 0 = 0 by decide)
          have bo672843' : gB o672843 0 0 := ⟨by omega, by omega⟩
          exact G_vretA dr_cX14_row_97 rfl (show (16 * (o672782.toInt - p672606.toInt) + 8 : Int).toNat ≤ ((16 * (p672605.toInt - p672606.toInt)).toNat + 9) by omega) (show (160 * (o672782.toInt - p672606.toInt) + 64 : Int).toNat ≤ ((160 * (p672605.toInt - p672606.toInt)).toNat + 71) by omega) ⟨P672847, F672864, o672782, o672783, o672784, o672785, o672724, q672786, o672843, p672609, o672787, o672788, o672789, o672790, (xt672800.1, xt672800.2), rfl, rfl, hsb672858, hfr672872, he672871, he672867, he672868, (by omega), (by omega), bo672782, (gB_w bo672783' (by decide) (by decide)), bo672784, bo672724, (gB_w bo672843' (by decide) (by decide)), (gB_w bv672691 (by decide) (by decide)), bo672789, bo672790, (by have qa0 : Int32.toInt 0 = 0 := (by decide); omega), (prP_le x672792 (by omega)), (by have qa0 : Int32.toInt 0 = 0 := (by decide); omega), tp672873, x672795, x672796, x672797, (opP_of (gB_w bo672843' (by decide) (by decide))), (Or.inl (by omega)), (show nzK p672607 by unfold nzK; omega), ⟨by omega, Or.inr (by omega)⟩, (fun R c1 c2 c3 c4 c5 => c3 o672642 xt672678 o672665 o672666 o672667 o672668 xt672735 o672723 o672724 o672725 o672726 o672758 xt672800 o672782 o672783 o672784 o672785 o672787 o672788 o672789 o672790 o672843 bo672642 ht672644 r672646 bo672665 bo672666 bo672667 ht672677 bo672723 bo672724 bo672725 ht672734 bo672758 ht672760 r672762 bo672782 bo672783 bo672784 bo672789 bo672790 ht672799 r672827 bo672843 ht672846 r672966)⟩
    · have r672967 : o672758.toInt ≠ 0 := gj_neq hc672761 (show Int32.toInt 0 = 0 by decide)
      have bo672758' : gB o672758 1 1 := ⟨by omega, by omega⟩
      refine G_aload_n 0 dr_cX14_row_50 rfl ?_
      refine Gw_callV (As := []) (gV_ok D I) (cp_669296_Reader_next l hl0 D I P672736 F672737 q672602 q672604 p672605 o672723 o672724 o672725 o672726 o672666 q672727 p672612 p672613 p672614 qo672615 qo672616 p672617 f672625 hm672742 hm672744 he672740 he672741 bp672605 bo672723 bo672724 bo672725 bo672666 bp672612 bp672613 bp672614 bp672617 bf672625 (by omega) (hsb672745 _ x672628) (hsb672745 _ x672629)) dr_cX14_row_51 ⟨wr_7_215, wr_1_32, wr_7_218, by decide, rfl, (Nat.le_of_ble_eq_true rfl), (Nat.le_of_ble_eq_true rfl)⟩ wr_7_217 wr_p_75 hm672742 he672740 rfl (show (16 * (o672723.toInt - p672606.toInt) + 0 : Int).toNat + 0 + ((16 * (p672605.toInt - o672723.toInt)).toNat) ≤ ((16 * (p672605.toInt - p672606.toInt)).toNat + 9) by first | omega | decide) (show (160 * (o672723.toInt - p672606.toInt) + 0 : Int).toNat + 0 + ((160 * (p672605.toInt - o672723.toInt)).toNat) ≤ ((160 * (p672605.toInt - p672606.toInt)).toNat + 71) by first | omega | decide) (Nat.le_of_ble_eq_true rfl) (fun r672971 w672972 dc672968 ds672969 hp672970 => ?_) (fun _ _ _ _ _ z => z.elim)
      obtain ⟨P672985, F672986, o672973, o672974, o672975, o672976, q672977, xt672984, rfl, rfl, hsb672987, hfr672988, he672989, he672990, hdc, hds, bo672973, bo672974, bo672975, x672978, x672979, x672980, x672981, x672982, ht672983⟩ := hp672970
      have hm672991 : q672602 ∈ P672985 := hsb672987 q672602 hm672742
      have hm672992 : q672603 ∈ P672985 := hsb672987 q672603 hm672743
      have hm672993 : q672604 ∈ P672985 := hsb672987 q672604 hm672744
      have hsb672994 : rSub P672600 P672985 := rSub_tr hsb672745 hsb672987
      have he672995 : F672986 q672603 = .inr (20, [.int p672618, .int p672609, .int p672620, .int p672621, .int p672622, .int p672623, .int p672624]) := (hfr672988 q672603 hm672743 (nm_c (rn_oo he672746 he672740 (by decide)) nm_n)).trans he672746
      have hfr672996 : rFr [q672603, q672602] P672600 F672601 F672986 := rFr_call hsb672745 hfr672747 hfr672988 (fun b hb hn => ⟨(nm_c (fun e => hn (e ▸ List.mem_cons_self)) (nm_c (fun e => hn (e ▸ (List.mem_cons_of_mem _ List.mem_cons_self))) nm_n)), (nm_c (fun e => hn (e ▸ (List.mem_cons_of_mem _ List.mem_cons_self))) nm_n)⟩)
      have bo672976 := gB_any o672976
      change G _ _ _ _ _ _ _ _ _ _ _
      refine G_widen (cs' := (16 * (o672723.toInt - p672606.toInt) + 0 : Int).toNat + 0 + ((16 * (o672973.toInt - o672723.toInt)).toNat)) (sl' := (160 * (o672723.toInt - p672606.toInt) + 0 : Int).toNat + 0 + ((160 * (o672973.toInt - o672723.toInt)).toNat)) (by omega) (by omega) ?_
      have x672997 : p672606.toInt ≤ o672973.toInt := by omega
      have x672998 : p672606.toInt + 2 ≤ o672723.toInt := by have q := (prQ_le x672751 (isK_1 x672759 (by omega))); omega
      have x672999 : p672606.toInt + 2 ≤ o672973.toInt := by omega
      have x673000 : prQ o672974 (p672606.toInt + 3) o672973 := prP_q x672979 x672998 (by omega)
      refine G_widen (cs' := (16 * (o672973.toInt - p672606.toInt) + 0 : Int).toNat) (sl' := (160 * (o672973.toInt - p672606.toInt) + 0 : Int).toNat) (by omega) (by omega) ?_
      clear he672740 he672741 hm672742 hm672743 hm672744 hsb672745 he672746 hfr672747 hsb672987 hfr672988; try clear r672756; try clear w672757; try clear dc672753; try clear ds672754; try clear hp672755; try clear r672971; try clear w672972; try clear dc672968; try clear ds672969; try clear hp672970
      refine G_aload_n 1 dr_cX14_row_54 rfl ?_
      refine G_bipush 20 dr_cX14_row_55 (by decide +kernel) ?_
      refine Gp_put 0 hm672992 he672995 dr_cX14_row_57 (gk_X15 D I) (Nat.le_of_ble_eq_true rfl) wr_9_179 rfl rfl rfl (Nat.le_of_ble_eq_true rfl) (fun F673001 e673002 n673003 => ?_)
      have he673004 : F673001 q672602 = .inr (19, [.ref q672604, .int p672605, .int o672973, .int o672974, .int o672975, .int o672976, .int o672724, .ref q672977, .int p672612, .int p672613, .int p672614, .ref qo672615, .ref qo672616, .int p672617]) := (n673003 q672602 (rn_oo he672989 he672995 (by decide))).trans he672989
      have he673005 : F673001 q672604 = .inl (I .byte, 8192, .inl f672625) := (n673003 q672604 (rn_ao he672990 he672995)).trans he672990
      have he673006 : F673001 q672603 = .inr (20, [.int 20, .int p672609, .int p672620, .int p672621, .int p672622, .int p672623, .int p672624]) := e673002
      have hfr673007 : rFr [q672603, q672602] P672600 F672601 F673001 := rFr_put' List.mem_cons_self hfr672996 n673003
      have tp673008 : tP I P672985 F673001 o672974 q672977 qo672616 qo672615 xt672984 := tP_put x672981 he672995 (by decide) n673003
      exact G_vretA dr_cX14_row_60 rfl (show (16 * (o672973.toInt - p672606.toInt) + 0 : Int).toNat ≤ ((16 * (p672605.toInt - p672606.toInt)).toNat + 9) by omega) (show (160 * (o672973.toInt - p672606.toInt) + 0 : Int).toNat ≤ ((160 * (p672605.toInt - p672606.toInt)).toNat + 71) by omega) ⟨P672985, F673001, o672973, o672974, o672975, o672976, o672724, q672977, 20, p672609, p672620, p672621, p672623, p672624, xt672984, rfl, rfl, hsb672994, hfr673007, he673006, he673004, he673005, (by omega), (by omega), bo672973, bo672974, bo672975, bo672724, (gB_w (gBl (show Int32.toInt 20 = 20 by decide)) (by decide) (by decide)), (gB_w bv672691 (by decide) (by decide)), bp672623, bp672624, (by have qa0 : Int32.toInt 20 = 20 := (by decide); omega), (prP_le x672979 (by omega)), (by have qa0 : Int32.toInt 20 = 20 := (by decide); omega), tp673008, x672982, x672632, x672633, (Or.inr (by decide)), (Or.inr (Or.inl (by decide))), (show nzK p672607 by unfold nzK; omega), ⟨by omega, Or.inr (by omega)⟩, (fun R c1 c2 c3 c4 c5 => c4 o672642 xt672678 o672665 o672666 o672667 o672668 xt672735 o672723 o672724 o672725 o672726 o672758 xt672984 o672973 o672974 o672975 o672976 bo672642 ht672644 r672646 bo672665 bo672666 bo672667 ht672677 bo672723 bo672724 bo672725 ht672734 bo672758 ht672760 r672967 bo672973 bo672974 bo672975 ht672983)⟩
  · have r673009 : o672642.toInt ≠ 0 := gj_neq hc672645 (show Int32.toInt 0 = 0 by decide)
    have bo672642' : gB o672642 1 1 := ⟨by omega, by omega⟩
    refine G_aload_n 0 dr_cX14_row_9 rfl ?_
    refine Gw_callV (As := []) (gV_ok D I) (cp_669296_Reader_next l hl0 D I P672600 F672601 q672602 q672604 p672605 p672606 p672607 p672608 p672609 p672610 qo672611 p672612 p672613 p672614 qo672615 qo672616 p672617 f672625 hmq672602 hmq672604 heq672602 heq672604 bp672605 bp672606 bp672607 bp672608 bp672610 bp672612 bp672613 bp672614 bp672617 bf672625 (by omega) x672628 x672629) dr_cX14_row_10 ⟨wr_7_215, wr_1_32, wr_7_218, by decide, rfl, (Nat.le_of_ble_eq_true rfl), (Nat.le_of_ble_eq_true rfl)⟩ wr_7_217 wr_p_75 hmq672602 heq672602 rfl (show 0 + ((16 * (p672605.toInt - p672606.toInt)).toNat) ≤ ((16 * (p672605.toInt - p672606.toInt)).toNat + 9) by first | omega | decide) (show 0 + ((160 * (p672605.toInt - p672606.toInt)).toNat) ≤ ((160 * (p672605.toInt - p672606.toInt)).toNat + 71) by first | omega | decide) (Nat.le_of_ble_eq_true rfl) (fun r673013 w673014 dc673010 ds673011 hp673012 => ?_) (fun _ _ _ _ _ z => z.elim)
    obtain ⟨P673027, F673028, o673015, o673016, o673017, o673018, q673019, xt673026, rfl, rfl, hsb673029, hfr673030, he673031, he673032, hdc, hds, bo673015, bo673016, bo673017, x673020, x673021, x673022, x673023, x673024, ht673025⟩ := hp673012
    have hm673033 : q672602 ∈ P673027 := hsb673029 q672602 hmq672602
    have hm673034 : q672603 ∈ P673027 := hsb673029 q672603 hmq672603
    have hm673035 : q672604 ∈ P673027 := hsb673029 q672604 hmq672604
    have hsb673036 : rSub P672600 P673027 := rSub_tr (rSub_rf (P := P672600)) hsb673029
    have he673037 : F673028 q672603 = .inr (20, [.int p672618, .int p672619, .int p672620, .int p672621, .int p672622, .int p672623, .int p672624]) := (hfr673030 q672603 hmq672603 (nm_c (rn_oo heq672603 heq672602 (by decide)) nm_n)).trans heq672603
    have hfr673038 : rFr [q672602] P672600 F672601 F673028 := rFr_call (rSub_rf (P := P672600)) (rFr_rf (W := []) (P := P672600) (F := F672601)) hfr673030 (fun b hb hn => ⟨nm_n, (nm_c (fun e => hn (e ▸ List.mem_cons_self)) nm_n)⟩)
    have bo673018 := gB_any o673018
    change G _ _ _ _ _ _ _ _ _ _ _
    refine G_widen (cs' := (16 * (o673015.toInt - p672606.toInt)).toNat) (sl' := (160 * (o673015.toInt - p672606.toInt)).toNat) (by omega) (by omega) ?_
    have x673039 : p672606.toInt ≤ o673015.toInt := by omega
    have x673040 : p672606.toInt + 0 ≤ p672606.toInt := by omega
    have x673041 : p672606.toInt + 0 ≤ o673015.toInt := by omega
    have x673042 : prQ o673016 (p672606.toInt + 1) o673015 := prP_q x673021 x673040 (by omega)
    refine G_widen (cs' := (16 * (o673015.toInt - p672606.toInt) + 0 : Int).toNat) (sl' := (160 * (o673015.toInt - p672606.toInt) + 0 : Int).toNat) (by omega) (by omega) ?_
    clear hsb673029 hfr673030; try clear r672640; try clear w672641; try clear dc672637; try clear ds672638; try clear hp672639; try clear r673013; try clear w673014; try clear dc673010; try clear ds673011; try clear hp673012
    refine G_aload_n 1 dr_cX14_row_13 rfl ?_
    refine G_bipush 22 dr_cX14_row_14 (by decide +kernel) ?_
    refine Gp_put 0 hm673034 he673037 dr_cX14_row_16 (gk_X15 D I) (Nat.le_of_ble_eq_true rfl) wr_9_179 rfl rfl rfl (Nat.le_of_ble_eq_true rfl) (fun F673043 e673044 n673045 => ?_)
    have he673046 : F673043 q672602 = .inr (19, [.ref q672604, .int p672605, .int o673015, .int o673016, .int o673017, .int o673018, .int p672607, .ref q673019, .int p672612, .int p672613, .int p672614, .ref qo672615, .ref qo672616, .int p672617]) := (n673045 q672602 (rn_oo he673031 he673037 (by decide))).trans he673031
    have he673047 : F673043 q672604 = .inl (I .byte, 8192, .inl f672625) := (n673045 q672604 (rn_ao he673032 he673037)).trans he673032
    have he673048 : F673043 q672603 = .inr (20, [.int 22, .int p672619, .int p672620, .int p672621, .int p672622, .int p672623, .int p672624]) := e673044
    have hfr673049 : rFr [q672603, q672602] P672600 F672601 F673043 := rFr_put hfr673038 n673045
    have tp673050 : tP I P673027 F673043 o673016 q673019 qo672616 qo672615 xt673026 := tP_put x673023 he673037 (by decide) n673045
    refine G_aload_n 0 dr_cX14_row_19 rfl ?_
    refine G_aload_n 1 dr_cX14_row_20 rfl ?_
    refine G_iconst 0 dr_cX14_row_21 (by decide +kernel) ?_
    refine Gw_callV (As := [.ref q672603, .int 0]) (gV_ok D I) (cp_671631_Reader_operand l hl0 D I P673027 F673043 q672602 q672603 q672604 0 p672605 o673015 o673016 o673017 o673018 p672607 q673019 p672612 p672613 p672614 qo672615 qo672616 p672617 22 p672619 p672620 p672621 p672622 p672623 p672624 f672625 xt673026 hm673033 hm673034 hm673035 he673046 he673048 he673047 (gB_w (gBl (show Int32.toInt 0 = 0 by decide)) (by decide) (by decide)) bp672605 bo673015 bo673016 bo673017 bp672607 bp672612 bp672613 bp672614 bp672617 (gB_w (gBl (show Int32.toInt 22 = 22 by decide)) (by decide) (by decide)) bp672619 bp672622 bp672623 bp672624 bf672625 (by have qa0 : Int32.toInt 22 = 22 := (by decide); omega) (hsb673036 _ x672628) (hsb673036 _ x672629) tp673050 x673024 x672632 x672633 (Or.inr (by decide))) dr_cX14_row_22 ⟨wr_10_89, wr_1_32, wr_10_92, by decide, rfl, (Nat.le_of_ble_eq_true rfl), (Nat.le_of_ble_eq_true rfl)⟩ wr_10_91 wr_p_89 hm673033 he673046 rfl (show (16 * (o673015.toInt - p672606.toInt) + 0 : Int).toNat + ((16 * (p672605.toInt - o673015.toInt)).toNat + 1) ≤ ((16 * (p672605.toInt - p672606.toInt)).toNat + 9) by first | omega | decide) (show (160 * (o673015.toInt - p672606.toInt) + 0 : Int).toNat + ((160 * (p672605.toInt - o673015.toInt)).toNat + 7) ≤ ((160 * (p672605.toInt - p672606.toInt)).toNat + 71) by first | omega | decide) (Nat.le_of_ble_eq_true rfl) (fun r673054 w673055 dc673051 ds673052 hp673053 => ?_) (fun _ qx673067 _ dc673065 ds673066 hx => by obtain ⟨P673063, F673064, rfl, rfl, hsb673056, hfr673057, hq673058, hqn673059, hwr673060, hdc673061, hds673062, x673068, ht673069⟩ := hx; exact GT_outA rfl (show (16 * (o673015.toInt - p672606.toInt) + 0 : Int).toNat + dc673065 ≤ ((16 * (p672605.toInt - p672606.toInt)).toNat + 9) by omega) (show (160 * (o673015.toInt - p672606.toInt) + 0 : Int).toNat + ds673066 ≤ ((160 * (p672605.toInt - p672606.toInt)).toNat + 71) by omega) ⟨P673063, F673064, rfl, rfl, (rSub_tr hsb673036 hsb673056), (show rFr [q672603, q672602] P672600 F672601 F673064 from rFr_call hsb673036 hfr673049 hfr673057 (fun b hb hn => ⟨(nm_c (fun e => hn (e ▸ List.mem_cons_self)) (nm_c (fun e => hn (e ▸ (List.mem_cons_of_mem _ List.mem_cons_self))) nm_n)), nm_n⟩)), hq673058, (fun z => hqn673059 (hsb673036 _ z)), hwr673060, (by omega), (by omega), ⟨22, p672619, p672620, p672621, p672622, p672623, p672624, ((hfr673057 q672603 hm673034 nm_n).trans he673048), (gB_w (gBl (show Int32.toInt 22 = 22 by decide)) (by decide) (by decide)), bp672619, bp672622, bp672623, bp672624, (Or.inr (by decide)), x672632, x672633⟩, (fun R c1 c2 c3 c4 c5 => c5 o672642 xt673026 o673015 o673016 o673017 o673018 bo672642 ht672644 r673009 bo673015 bo673016 bo673017 ht673025 ht673069)⟩)
    obtain ⟨P673089, F673090, o673070, o673071, o673072, o673073, q673074, o673075, o673076, o673077, o673078, xt673088, rfl, rfl, hsb673091, hfr673092, he673093, he673094, he673095, hdc, hds, bo673070, bo673071, bo673072, bo673077, bo673078, x673079, x673080, x673081, x673082, x673083, x673084, x673085, x673086, ht673087⟩ := hp673053
    have hm673096 : q672602 ∈ P673089 := hsb673091 q672602 hm673033
    have hm673097 : q672603 ∈ P673089 := hsb673091 q672603 hm673034
    have hm673098 : q672604 ∈ P673089 := hsb673091 q672604 hm673035
    have hsb673099 : rSub P672600 P673089 := rSub_tr hsb673036 hsb673091
    have hfr673100 : rFr [q672603, q672602] P672600 F672601 F673090 := rFr_call hsb673036 hfr673049 hfr673092 (fun b hb hn => ⟨(nm_c (fun e => hn (e ▸ List.mem_cons_self)) (nm_c (fun e => hn (e ▸ (List.mem_cons_of_mem _ List.mem_cons_self))) nm_n)), (nm_c (fun e => hn (e ▸ List.mem_cons_self)) (nm_c (fun e => hn (e ▸ (List.mem_cons_of_mem _ List.mem_cons_self))) nm_n))⟩)
    have bo673073 := gB_any o673073
    have bo673075 := gB_any o673075
    have bo673076 := gB_any o673076
    change G _ _ _ _ _ _ _ _ _ _ _
    refine G_widen (cs' := (16 * (o673015.toInt - p672606.toInt) + 0 : Int).toNat + ((16 * (o673070.toInt - o673015.toInt)).toNat)) (sl' := (160 * (o673015.toInt - p672606.toInt) + 0 : Int).toNat + ((160 * (o673070.toInt - o673015.toInt)).toNat)) (by omega) (by omega) ?_
    have x673101 : p672606.toInt + 1 ≤ o673015.toInt := by have q := (prQ_le x673042 x673086); omega
    have x673102 : p672606.toInt + 1 ≤ o673070.toInt := by omega
    have x673103 : prQ o673071 (p672606.toInt + 2) o673070 := prP_q x673080 x673101 (by omega)
    exact G_vretA dr_cX14_row_25 rfl (show (16 * (o673015.toInt - p672606.toInt) + 0 : Int).toNat + ((16 * (o673070.toInt - o673015.toInt)).toNat) ≤ ((16 * (p672605.toInt - p672606.toInt)).toNat + 9) by omega) (show (160 * (o673015.toInt - p672606.toInt) + 0 : Int).toNat + ((160 * (o673070.toInt - o673015.toInt)).toNat) ≤ ((160 * (p672605.toInt - p672606.toInt)).toNat + 71) by omega) ⟨P673089, F673090, o673070, o673071, o673072, o673073, o673016, q673074, 22, p672619, o673075, o673076, o673077, o673078, xt673088, rfl, rfl, hsb673099, hfr673100, he673093, he673094, he673095, (by omega), (by omega), bo673070, bo673071, bo673072, bo673016, (gB_w (gBl (show Int32.toInt 22 = 22 by decide)) (by decide) (by decide)), bp672619, bo673077, bo673078, (by have qa0 : Int32.toInt 22 = 22 := (by decide); omega), (prP_le x673080 (by omega)), (by have qa0 : Int32.toInt 22 = 22 := (by decide); omega), x673082, x673083, x673084, x673085, (Or.inr (by decide)), (Or.inr (Or.inr (by decide))), (isK_1 x672643 (by omega)), ⟨by omega, x673103⟩, (fun R c1 c2 c3 c4 c5 => c5 o672642 xt673026 o673015 o673016 o673017 o673018 xt673088 o673070 o673071 o673072 o673073 o673075 o673076 o673077 o673078 bo672642 ht672644 r673009 bo673015 bo673016 bo673017 ht673025 bo673070 bo673071 bo673072 bo673077 bo673078 ht673087)⟩
/- tr_RReader_end: a.0...at, a.0...kind, a.0...place, a.0...value, a.0...before, a.0...goalN, a.1...first, a.1...second, a.0.goalPlaces.#, a.0.goalPlaces.[], a.0.goals.#, a.0.goals.[], a.1.end...op, a.1.end...a, a.1.end...b, a.1.end...regA, a.1.end...regB -/
def tr_RReader_end (a0_n : Int32) (a0_at : Int32) (a0_kind : Int32) (a0_value : Int32) (a0_goalN : Int32) (a0_t_v : Nat → Int32) (p : Nat → Int32) (p2 : Nat) (p3 : Nat → Int32) (p4 : Nat) (a1_end_b : Int32) (a1_end_regB : Int32) (xt : gTx) (o1 : Int32) (o2 : Int32) (o3 : Int32) (o4 : Int32) (o5 : Int32) (o6 : Int32) (o7 : Int32) (o8 : Int32) (o9 : Nat) (o10 : Nat → Int32) (o11 : Nat) (o12 : Nat → Int32) (o13 : Int32) (o14 : Int32) (o15 : Int32) (o16 : Int32) (o17 : Int32) (o18 : gTx) : Prop := ∀ R : (Int32) → (Int32) → (Int32) → (Int32) → (Int32) → (Int32) → (Int32) → (Int32) → (Nat) → (Nat → Int32) → (Nat) → (Nat → Int32) → (Int32) → (Int32) → (Int32) → (Int32) → (Int32) → (gTx) → Prop,
  (∀ (x1 : Int32) (x2 : Int32) (x3 : Int32) (x4 : gTx) (x5 : Int32) (x6 : Int32) (x7 : Int32) (x8 : Int32) (x9 : gTx) (x10 : Int32) (x11 : Int32) (x12 : Int32) (x13 : Int32) (x14 : Int32) (x15 : Int32) (x16 : Int32) (x17 : Int32), gB x1 0 1 → tr_RReader_is sb_44 a0_kind xt x1 → x1.toInt = 0 → gB x2 0 1 → tr_RReader_is sb_45 a0_kind xt x2 → x2.toInt = 0 → gB x3 0 1 → tr_RReader_is sb_46 a0_kind xt x3 → x3.toInt ≠ 0 → gB x5 0 8192 → gB x6 0 6 → gB x7 0 8192 → tr_RReader_next a0_n a0_at a0_kind a0_value a0_t_v x5 x6 x7 x8 x4 → gB x10 0 8192 → gB x11 0 6 → gB x12 0 8192 → gB x16 0 1 → gB x17 0 1 → tr_RReader_operand (0 : Int32) a0_n x5 x6 x8 (0 : Int32) a1_end_b (0 : Int32) a1_end_regB a0_t_v x10 x11 x12 x13 x14 x15 x16 x17 x9 → R x10 x11 x12 x13 x6 a0_goalN (0 : Int32) (0 : Int32) p2 p p4 p3 (32 : Int32) x14 x15 x16 x17 x9) →
  (∀ (x1 : Int32) (x2 : Int32) (x3 : gTx) (x4 : Int32) (x5 : Int32) (x6 : Int32) (x7 : Int32) (x8 : gTx) (x9 : Int32) (x10 : Int32) (x11 : Int32) (x12 : Int32) (x13 : Int32) (x14 : Int32) (x15 : Int32) (x16 : Int32) (x17 : gTx) (x18 : Int32) (x19 : Int32) (x20 : Int32) (x21 : Int32) (x22 : Int32) (x23 : Nat) (x24 : Nat → Int32) (x25 : Nat) (x26 : Nat → Int32) (x27 : gTx) (x28 : Int32) (x29 : Int32) (x30 : Int32) (x31 : Int32) (x32 : Int32) (x33 : Nat) (x34 : Nat → Int32) (x35 : Nat) (x36 : Nat → Int32), gB x1 0 1 → tr_RReader_is sb_44 a0_kind xt x1 → x1.toInt = 0 → gB x2 0 1 → tr_RReader_is sb_45 a0_kind xt x2 → x2.toInt ≠ 0 → gB x4 0 8192 → gB x5 0 6 → gB x6 0 8192 → tr_RReader_next a0_n a0_at a0_kind a0_value a0_t_v x4 x5 x6 x7 x3 → gB x9 0 8192 → gB x10 0 6 → gB x11 0 8192 → gB x15 0 1 → gB x16 0 1 → tr_RReader_operand (0 : Int32) a0_n x4 x5 x7 (0 : Int32) a1_end_b (0 : Int32) a1_end_regB a0_t_v x9 x10 x11 x12 x13 x14 x15 x16 x8 → gB x18 0 8192 → gB x19 0 6 → gB x20 0 8192 → gB x22 1 1000000 → tr_RReader_goal a0_n x9 x10 x11 x12 a0_goalN a0_t_v p p2 p3 p4 x18 x19 x20 x21 x22 x23 x24 x25 x26 x17 → gB x28 0 8192 → gB x29 0 6 → gB x30 0 8192 → gB x32 1 1000000 → tr_RReader_goal a0_n x18 x19 x20 x21 x22 a0_t_v x24 x23 x26 x25 x28 x29 x30 x31 x32 x33 x34 x35 x36 x27 → R x28 x29 x30 x31 x19 x32 x12 x21 x33 x34 x35 x36 (31 : Int32) x13 x14 x15 x16 x27) →
  (∀ (x1 : Int32) (x2 : gTx) (x3 : Int32) (x4 : Int32) (x5 : Int32) (x6 : Int32) (x7 : gTx) (x8 : Int32) (x9 : Int32) (x10 : Int32) (x11 : Int32) (x12 : Int32) (x13 : Nat) (x14 : Nat → Int32) (x15 : Nat) (x16 : Nat → Int32), gB x1 0 1 → tr_RReader_is sb_44 a0_kind xt x1 → x1.toInt ≠ 0 → gB x3 0 8192 → gB x4 0 6 → gB x5 0 8192 → tr_RReader_next a0_n a0_at a0_kind a0_value a0_t_v x3 x4 x5 x6 x2 → gB x8 0 8192 → gB x9 0 6 → gB x10 0 8192 → gB x12 1 1000000 → tr_RReader_goal a0_n x3 x4 x5 x6 a0_goalN a0_t_v p p2 p3 p4 x8 x9 x10 x11 x12 x13 x14 x15 x16 x7 → R x8 x9 x10 x11 x4 x12 x6 x6 x13 x14 x15 x16 (30 : Int32) (0 : Int32) a1_end_b (0 : Int32) a1_end_regB x7) →
  R o1 o2 o3 o4 o5 o6 o7 o8 o9 o10 o11 o12 o13 o14 o15 o16 o17 o18
/- tx_RReader_end: throws -/
def tx_RReader_end (a0_n : Int32) (a0_at : Int32) (a0_kind : Int32) (a0_value : Int32) (a0_goalN : Int32) (a0_t_v : Nat → Int32) (p : Nat → Int32) (p2 : Nat) (p3 : Nat → Int32) (p4 : Nat) (a1_end_b : Int32) (a1_end_regB : Int32) (xt : gTx) : Prop := ∀ R : Prop,
  (∀ (x1 : Int32) (x2 : Int32) (x3 : Int32), gB x1 0 1 → tr_RReader_is sb_44 a0_kind xt x1 → x1.toInt = 0 → gB x2 0 1 → tr_RReader_is sb_45 a0_kind xt x2 → x2.toInt = 0 → gB x3 0 1 → tr_RReader_is sb_46 a0_kind xt x3 → x3.toInt = 0 → R) →
  (∀ (x1 : Int32) (x2 : Int32) (x3 : Int32) (x4 : gTx) (x5 : Int32) (x6 : Int32) (x7 : Int32) (x8 : Int32), gB x1 0 1 → tr_RReader_is sb_44 a0_kind xt x1 → x1.toInt = 0 → gB x2 0 1 → tr_RReader_is sb_45 a0_kind xt x2 → x2.toInt = 0 → gB x3 0 1 → tr_RReader_is sb_46 a0_kind xt x3 → x3.toInt ≠ 0 → gB x5 0 8192 → gB x6 0 6 → gB x7 0 8192 → tr_RReader_next a0_n a0_at a0_kind a0_value a0_t_v x5 x6 x7 x8 x4 → tx_RReader_operand x6 → R) →
  (∀ (x1 : Int32) (x2 : Int32) (x3 : gTx) (x4 : Int32) (x5 : Int32) (x6 : Int32) (x7 : Int32), gB x1 0 1 → tr_RReader_is sb_44 a0_kind xt x1 → x1.toInt = 0 → gB x2 0 1 → tr_RReader_is sb_45 a0_kind xt x2 → x2.toInt ≠ 0 → gB x4 0 8192 → gB x5 0 6 → gB x6 0 8192 → tr_RReader_next a0_n a0_at a0_kind a0_value a0_t_v x4 x5 x6 x7 x3 → tx_RReader_operand x5 → R) →
  (∀ (x1 : Int32) (x2 : Int32) (x3 : gTx) (x4 : Int32) (x5 : Int32) (x6 : Int32) (x7 : Int32) (x8 : gTx) (x9 : Int32) (x10 : Int32) (x11 : Int32) (x12 : Int32) (x13 : Int32) (x14 : Int32) (x15 : Int32) (x16 : Int32), gB x1 0 1 → tr_RReader_is sb_44 a0_kind xt x1 → x1.toInt = 0 → gB x2 0 1 → tr_RReader_is sb_45 a0_kind xt x2 → x2.toInt ≠ 0 → gB x4 0 8192 → gB x5 0 6 → gB x6 0 8192 → tr_RReader_next a0_n a0_at a0_kind a0_value a0_t_v x4 x5 x6 x7 x3 → gB x9 0 8192 → gB x10 0 6 → gB x11 0 8192 → gB x15 0 1 → gB x16 0 1 → tr_RReader_operand (0 : Int32) a0_n x4 x5 x7 (0 : Int32) a1_end_b (0 : Int32) a1_end_regB a0_t_v x9 x10 x11 x12 x13 x14 x15 x16 x8 → tx_RReader_goal x10 a0_goalN p p2 p3 p4 → R) →
  (∀ (x1 : Int32) (x2 : Int32) (x3 : gTx) (x4 : Int32) (x5 : Int32) (x6 : Int32) (x7 : Int32) (x8 : gTx) (x9 : Int32) (x10 : Int32) (x11 : Int32) (x12 : Int32) (x13 : Int32) (x14 : Int32) (x15 : Int32) (x16 : Int32) (x17 : gTx) (x18 : Int32) (x19 : Int32) (x20 : Int32) (x21 : Int32) (x22 : Int32) (x23 : Nat) (x24 : Nat → Int32) (x25 : Nat) (x26 : Nat → Int32), gB x1 0 1 → tr_RReader_is sb_44 a0_kind xt x1 → x1.toInt = 0 → gB x2 0 1 → tr_RReader_is sb_45 a0_kind xt x2 → x2.toInt ≠ 0 → gB x4 0 8192 → gB x5 0 6 → gB x6 0 8192 → tr_RReader_next a0_n a0_at a0_kind a0_value a0_t_v x4 x5 x6 x7 x3 → gB x9 0 8192 → gB x10 0 6 → gB x11 0 8192 → gB x15 0 1 → gB x16 0 1 → tr_RReader_operand (0 : Int32) a0_n x4 x5 x7 (0 : Int32) a1_end_b (0 : Int32) a1_end_regB a0_t_v x9 x10 x11 x12 x13 x14 x15 x16 x8 → gB x18 0 8192 → gB x19 0 6 → gB x20 0 8192 → gB x22 1 1000000 → tr_RReader_goal a0_n x9 x10 x11 x12 a0_goalN a0_t_v p p2 p3 p4 x18 x19 x20 x21 x22 x23 x24 x25 x26 x17 → tx_RReader_goal x19 x22 x24 x23 x26 x25 → R) →
  (∀ (x1 : Int32) (x2 : gTx) (x3 : Int32) (x4 : Int32) (x5 : Int32) (x6 : Int32), gB x1 0 1 → tr_RReader_is sb_44 a0_kind xt x1 → x1.toInt ≠ 0 → gB x3 0 8192 → gB x4 0 6 → gB x5 0 8192 → tr_RReader_next a0_n a0_at a0_kind a0_value a0_t_v x3 x4 x5 x6 x2 → tx_RReader_goal x4 a0_goalN p p2 p3 p4 → R) →
  R
