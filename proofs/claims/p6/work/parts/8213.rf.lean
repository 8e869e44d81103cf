theorem dr_cJ7_copyOf_59c91_0 : decode cJ7_copyOf_59c91 0 = .ok (.iload_n 1, 1) := by decide +kernel
theorem dr_cJ7_copyOf_59c91_1 : decode cJ7_copyOf_59c91 1 = .ok (.aload_n 0, 1) := by decide +kernel
theorem dr_cJ7_copyOf_59c91_2 : decode cJ7_copyOf_59c91 2 = .ok (.arraylength, 1) := by decide +kernel
theorem dr_cJ7_copyOf_59c91_3 : decode cJ7_copyOf_59c91 3 = .ok (.if_icmp .ne 11, 3) := by decide +kernel
theorem dr_cJ7_copyOf_59c91_14 : decode cJ7_copyOf_59c91 14 = .ok (.iload_n 1, 1) := by decide +kernel
theorem dr_cJ7_copyOf_59c91_15 : decode cJ7_copyOf_59c91 15 = .ok (.newarray .int, 2) := by decide +kernel
theorem wr_1_95 : (Jvm.Cond.arrayClass Jvm.ClassFile.FieldType.int) ∈ gw := gw_1 95 rfl rfl
theorem dr_cJ7_copyOf_59c91_17 : decode cJ7_copyOf_59c91 17 = .ok (.astore_n 2, 1) := by decide +kernel
theorem dr_cJ7_copyOf_59c91_18 : decode cJ7_copyOf_59c91 18 = .ok (.aload_n 0, 1) := by decide +kernel
theorem dr_cJ7_copyOf_59c91_19 : decode cJ7_copyOf_59c91 19 = .ok (.iconst 0, 1) := by decide +kernel
theorem dr_cJ7_copyOf_59c91_20 : decode cJ7_copyOf_59c91 20 = .ok (.aload_n 2, 1) := by decide +kernel
theorem dr_cJ7_copyOf_59c91_21 : decode cJ7_copyOf_59c91 21 = .ok (.iconst 0, 1) := by decide +kernel
theorem dr_cJ7_copyOf_59c91_22 : decode cJ7_copyOf_59c91 22 = .ok (.aload_n 0, 1) := by decide +kernel
theorem dr_cJ7_copyOf_59c91_23 : decode cJ7_copyOf_59c91 23 = .ok (.arraylength, 1) := by decide +kernel
theorem dr_cJ7_copyOf_59c91_24 : decode cJ7_copyOf_59c91 24 = .ok (.iload_n 1, 1) := by decide +kernel
theorem dr_cJ7_copyOf_59c91_25 : decode cJ7_copyOf_59c91 25 = .ok (.invokestatic 304, 3) := by decide +kernel
theorem dr_cJ7_copyOf_59c91_28 : decode cJ7_copyOf_59c91 28 = .ok (.invokestatic 150, 3) := by decide +kernel
theorem dr_cJ7_copyOf_59c91_31 : decode cJ7_copyOf_59c91 31 = .ok (.aload_n 2, 1) := by decide +kernel
theorem dr_cJ7_copyOf_59c91_32 : decode cJ7_copyOf_59c91 32 = .ok (.areturn, 1) := by decide +kernel
theorem dr_cX14_goal_0 : decode cX14_goal 0 = .ok (.aload_n 0, 1) := by decide +kernel
theorem dr_cX14_goal_1 : decode cX14_goal 1 = .ok (.getfield 143, 3) := by decide +kernel
theorem wr_9_51 : (Jvm.Cond.fieldLink "SpillForgeModel$Reader" (143 : Nat) "SpillForgeModel$Reader" "goalN" "I") ∈ gw := gw_9 51 rfl rfl
theorem dr_cX14_goal_4 : decode cX14_goal 4 = .ok (.aload_n 0, 1) := by decide +kernel
theorem dr_cX14_goal_5 : decode cX14_goal 5 = .ok (.getfield 25, 3) := by decide +kernel
theorem wr_9_50 : (Jvm.Cond.fieldLink "SpillForgeModel$Reader" (25 : Nat) "SpillForgeModel$Reader" "goals" "[I") ∈ gw := gw_9 50 rfl rfl
theorem dr_cX14_goal_8 : decode cX14_goal 8 = .ok (.arraylength, 1) := by decide +kernel
theorem dr_cX14_goal_9 : decode cX14_goal 9 = .ok (.if_icmp .ne 37, 3) := by decide +kernel
theorem dr_cX14_goal_46 : decode cX14_goal 46 = .ok (.aload_n 0, 1) := by decide +kernel
theorem dr_cX14_goal_47 : decode cX14_goal 47 = .ok (.getfield 21, 3) := by decide +kernel
theorem wr_9_49 : (Jvm.Cond.fieldLink "SpillForgeModel$Reader" (21 : Nat) "SpillForgeModel$Reader" "goalPlaces" "[I") ∈ gw := gw_9 49 rfl rfl
theorem dr_cX14_goal_50 : decode cX14_goal 50 = .ok (.aload_n 0, 1) := by decide +kernel
theorem dr_cX14_goal_51 : decode cX14_goal 51 = .ok (.getfield 143, 3) := by decide +kernel
theorem dr_cX14_goal_54 : decode cX14_goal 54 = .ok (.aload_n 0, 1) := by decide +kernel
theorem dr_cX14_goal_55 : decode cX14_goal 55 = .ok (.getfield 47, 3) := by decide +kernel
theorem dr_cX14_goal_58 : decode cX14_goal 58 = .ok (.iastore, 1) := by decide +kernel
theorem dr_cX14_goal_59 : decode cX14_goal 59 = .ok (.aload_n 0, 1) := by decide +kernel
theorem dr_cX14_goal_60 : decode cX14_goal 60 = .ok (.iconst 3, 1) := by decide +kernel
theorem dr_cX14_goal_61 : decode cX14_goal 61 = .ok (.invokevirtual 152, 3) := by decide +kernel
theorem wr_9_93 : (Jvm.Cond.methodLink "SpillForgeModel$Reader" (152 : Nat) ({ cls := "SpillForgeModel$Reader", name := "want", desc := "(I)I" } : Jvm.MethodName)) ∈ gw := gw_9 93 rfl rfl
theorem wr_9_96 : (Jvm.Cond.code ({ cls := "SpillForgeModel$Reader", name := "want", desc := "(I)I" } : Jvm.MethodName) prog_17_method_11_code (3 : Nat) (Option.some Jvm.ClassFile.FieldType.int)) ∈ gw := gw_9 96 rfl rfl
theorem wr_9_95 : (Jvm.Cond.instanceMethod ({ cls := "SpillForgeModel$Reader", name := "want", desc := "(I)I" } : Jvm.MethodName)) ∈ gw := gw_9 95 rfl rfl
theorem wr_p_80 : Cond.selects "SpillForgeModel$Reader" ⟨"SpillForgeModel$Reader", "want", "(I)I"⟩ ⟨"SpillForgeModel$Reader", "want", "(I)I"⟩ ∈ gw := gw_p _ 80 rfl rfl rfl
theorem dr_cX14_goal_64 : decode cX14_goal 64 = .ok (.istore_n 1, 1) := by decide +kernel
theorem dr_cX14_goal_65 : decode cX14_goal 65 = .ok (.aload_n 0, 1) := by decide +kernel
theorem dr_cX14_goal_66 : decode cX14_goal 66 = .ok (.getfield 25, 3) := by decide +kernel
theorem dr_cX14_goal_69 : decode cX14_goal 69 = .ok (.aload_n 0, 1) := by decide +kernel
theorem dr_cX14_goal_70 : decode cX14_goal 70 = .ok (.getfield 143, 3) := by decide +kernel
theorem dr_cX14_goal_73 : decode cX14_goal 73 = .ok (.iload_n 1, 1) := by decide +kernel
theorem dr_cX14_goal_74 : decode cX14_goal 74 = .ok (.iastore, 1) := by decide +kernel
theorem dr_cX14_goal_75 : decode cX14_goal 75 = .ok (.aload_n 0, 1) := by decide +kernel
theorem dr_cX14_goal_76 : decode cX14_goal 76 = .ok (.dup, 1) := by decide +kernel
theorem dr_cX14_goal_77 : decode cX14_goal 77 = .ok (.getfield 143, 3) := by decide +kernel
theorem dr_cX14_goal_80 : decode cX14_goal 80 = .ok (.iconst 1, 1) := by decide +kernel
theorem dr_cX14_goal_81 : decode cX14_goal 81 = .ok (.iadd, 1) := by decide +kernel
theorem dr_cX14_goal_82 : decode cX14_goal 82 = .ok (.putfield 143, 3) := by decide +kernel
theorem dr_cX14_goal_85 : decode cX14_goal 85 = .ok (.iload_n 1, 1) := by decide +kernel
theorem dr_cX14_goal_86 : decode cX14_goal 86 = .ok (.ireturn, 1) := by decide +kernel
theorem dr_cX14_goal_12 : decode cX14_goal 12 = .ok (.aload_n 0, 1) := by decide +kernel
theorem dr_cX14_goal_13 : decode cX14_goal 13 = .ok (.aload_n 0, 1) := by decide +kernel
theorem dr_cX14_goal_14 : decode cX14_goal 14 = .ok (.getfield 25, 3) := by decide +kernel
theorem dr_cX14_goal_17 : decode cX14_goal 17 = .ok (.iconst 2, 1) := by decide +kernel
theorem dr_cX14_goal_18 : decode cX14_goal 18 = .ok (.aload_n 0, 1) := by decide +kernel
theorem dr_cX14_goal_19 : decode cX14_goal 19 = .ok (.getfield 143, 3) := by decide +kernel
theorem dr_cX14_goal_22 : decode cX14_goal 22 = .ok (.imul, 1) := by decide +kernel
theorem dr_cX14_goal_23 : decode cX14_goal 23 = .ok (.invokestatic 146, 3) := by decide +kernel
theorem wr_10_114 : (Jvm.Cond.methodLink "SpillForgeModel$Reader" (146 : Nat) ({ cls := "java/util/Arrays", name := "copyOf", desc := "([II)[I" } : Jvm.MethodName)) ∈ gw := gw_10 114 rfl rfl
theorem wr_10_116 : (Jvm.Cond.code ({ cls := "java/util/Arrays", name := "copyOf", desc := "([II)[I" } : Jvm.MethodName) prog_44_method_123_code (3 : Nat) (Option.some (Jvm.ClassFile.FieldType.array Jvm.ClassFile.FieldType.int))) ∈ gw := gw_10 116 rfl rfl
theorem wr_10_115 : (Jvm.Cond.static ({ cls := "java/util/Arrays", name := "copyOf", desc := "([II)[I" } : Jvm.MethodName)) ∈ gw := gw_10 115 rfl rfl
theorem dr_cX14_goal_26 : decode cX14_goal 26 = .ok (.putfield 25, 3) := by decide +kernel
theorem dr_cX14_goal_29 : decode cX14_goal 29 = .ok (.aload_n 0, 1) := by decide +kernel
theorem dr_cX14_goal_30 : decode cX14_goal 30 = .ok (.aload_n 0, 1) := by decide +kernel
theorem dr_cX14_goal_31 : decode cX14_goal 31 = .ok (.getfield 21, 3) := by decide +kernel
theorem dr_cX14_goal_34 : decode cX14_goal 34 = .ok (.iconst 2, 1) := by decide +kernel
theorem dr_cX14_goal_35 : decode cX14_goal 35 = .ok (.aload_n 0, 1) := by decide +kernel
theorem dr_cX14_goal_36 : decode cX14_goal 36 = .ok (.getfield 143, 3) := by decide +kernel
theorem dr_cX14_goal_39 : decode cX14_goal 39 = .ok (.imul, 1) := by decide +kernel
theorem dr_cX14_goal_40 : decode cX14_goal 40 = .ok (.invokestatic 146, 3) := by decide +kernel
theorem dr_cX14_goal_43 : decode cX14_goal 43 = .ok (.putfield 21, 3) := by decide +kernel
theorem dr_cX14_row_0 : decode cX14_row 0 = .ok (.aload_n 0, 1) := by decide +kernel
theorem dr_cX14_row_1 : decode cX14_row 1 = .ok (.ldc 179, 2) := by decide +kernel
theorem dr_cX14_row_3 : decode cX14_row 3 = .ok (.invokevirtual 132, 3) := by decide +kernel
theorem dr_cX14_row_6 : decode cX14_row 6 = .ok (.ifCond .eq 20, 3) := by decide +kernel
theorem dr_cX14_row_26 : decode cX14_row 26 = .ok (.aload_n 1, 1) := by decide +kernel
theorem dr_cX14_row_27 : decode cX14_row 27 = .ok (.aload_n 0, 1) := by decide +kernel
theorem dr_cX14_row_28 : decode cX14_row 28 = .ok (.iconst 2, 1) := by decide +kernel
theorem dr_cX14_row_29 : decode cX14_row 29 = .ok (.invokevirtual 152, 3) := by decide +kernel
theorem dr_cX14_row_32 : decode cX14_row 32 = .ok (.putfield 227, 3) := by decide +kernel
theorem wr_9_183 : (Jvm.Cond.fieldLink "SpillForgeModel$Reader" (227 : Nat) "SpillForgeModel$Row" "t" "I") ∈ gw := gw_9 183 rfl rfl
theorem dr_cX14_row_35 : decode cX14_row 35 = .ok (.aload_n 0, 1) := by decide +kernel
theorem dr_cX14_row_36 : decode cX14_row 36 = .ok (.ldc 229, 2) := by decide +kernel
theorem dr_cX14_row_38 : decode cX14_row 38 = .ok (.invokevirtual 173, 3) := by decide +kernel
theorem wr_9_137 : (Jvm.Cond.methodLink "SpillForgeModel$Reader" (173 : Nat) ({ cls := "SpillForgeModel$Reader", name := "want", desc := "(Ljava/lang/String;)V" } : Jvm.MethodName)) ∈ gw := gw_9 137 rfl rfl
theorem wr_9_140 : (Jvm.Cond.code ({ cls := "SpillForgeModel$Reader", name := "want", desc := "(Ljava/lang/String;)V" } : Jvm.MethodName) prog_17_method_10_code (2 : Nat) (Option.none : Option Jvm.ClassFile.FieldType)) ∈ gw := gw_9 140 rfl rfl
theorem wr_9_139 : (Jvm.Cond.instanceMethod ({ cls := "SpillForgeModel$Reader", name := "want", desc := "(Ljava/lang/String;)V" } : Jvm.MethodName)) ∈ gw := gw_9 139 rfl rfl
theorem wr_p_83 : Cond.selects "SpillForgeModel$Reader" ⟨"SpillForgeModel$Reader", "want", "(Ljava/lang/String;)V"⟩ ⟨"SpillForgeModel$Reader", "want", "(Ljava/lang/String;)V"⟩ ∈ gw := gw_p _ 83 rfl rfl rfl
theorem dr_cX14_row_41 : decode cX14_row 41 = .ok (.aload_n 0, 1) := by decide +kernel
theorem dr_cX14_row_42 : decode cX14_row 42 = .ok (.ldc 231, 2) := by decide +kernel
theorem dr_cX14_row_44 : decode cX14_row 44 = .ok (.invokevirtual 132, 3) := by decide +kernel
theorem dr_cX14_row_47 : decode cX14_row 47 = .ok (.ifCond .eq 14, 3) := by decide +kernel
theorem dr_cX14_row_61 : decode cX14_row 61 = .ok (.aload_n 0, 1) := by decide +kernel
theorem dr_cX14_row_62 : decode cX14_row 62 = .ok (.aload_n 1, 1) := by decide +kernel
theorem dr_cX14_row_63 : decode cX14_row 63 = .ok (.iconst 0, 1) := by decide +kernel
theorem dr_cX14_row_64 : decode cX14_row 64 = .ok (.invokevirtual 223, 3) := by decide +kernel
theorem wr_10_89 : (Jvm.Cond.methodLink "SpillForgeModel$Reader" (223 : Nat) ({ cls := "SpillForgeModel$Reader", name := "operand", desc := "(LSpillForgeModel$Row;Z)V" } : Jvm.MethodName)) ∈ gw := gw_10 89 rfl rfl
theorem wr_10_92 : (Jvm.Cond.code ({ cls := "SpillForgeModel$Reader", name := "operand", desc := "(LSpillForgeModel$Row;Z)V" } : Jvm.MethodName) prog_17_method_16_code (4 : Nat) (Option.none : Option Jvm.ClassFile.FieldType)) ∈ gw := gw_10 92 rfl rfl
theorem wr_10_91 : (Jvm.Cond.instanceMethod ({ cls := "SpillForgeModel$Reader", name := "operand", desc := "(LSpillForgeModel$Row;Z)V" } : Jvm.MethodName)) ∈ gw := gw_10 91 rfl rfl
theorem wr_p_89 : Cond.selects "SpillForgeModel$Reader" ⟨"SpillForgeModel$Reader", "operand", "(LSpillForgeModel$Row;Z)V"⟩ ⟨"SpillForgeModel$Reader", "operand", "(LSpillForgeModel$Row;Z)V"⟩ ∈ gw := gw_p _ 89 rfl rfl rfl
theorem dr_cX14_row_67 : decode cX14_row 67 = .ok (.aload_n 1, 1) := by decide +kernel
theorem dr_cX14_row_68 : decode cX14_row 68 = .ok (.aload_n 0, 1) := by decide +kernel
theorem dr_cX14_row_69 : decode cX14_row 69 = .ok (.getfield 38, 3) := by decide +kernel
theorem dr_cX14_row_72 : decode cX14_row 72 = .ok (.iconst 5, 1) := by decide +kernel
theorem dr_cX14_row_73 : decode cX14_row 73 = .ok (.if_icmp .ne 13, 3) := by decide +kernel
theorem dr_cX14_row_86 : decode cX14_row 86 = .ok (.iconst 0, 1) := by decide +kernel
theorem dr_cX14_row_87 : decode cX14_row 87 = .ok (.putfield 220, 3) := by decide +kernel
theorem wr_9_179 : (Jvm.Cond.fieldLink "SpillForgeModel$Reader" (220 : Nat) "SpillForgeModel$Row" "op" "I") ∈ gw := gw_9 179 rfl rfl
theorem dr_cX14_row_90 : decode cX14_row 90 = .ok (.aload_n 1, 1) := by decide +kernel
theorem dr_cX14_row_91 : decode cX14_row 91 = .ok (.getfield 220, 3) := by decide +kernel
theorem dr_cX14_row_94 : decode cX14_row 94 = .ok (.ifCond .ne 4, 3) := by decide +kernel
theorem dr_cX14_row_97 : decode cX14_row 97 = .ok (.return_, 1) := by decide +kernel
theorem dr_cX14_row_76 : decode cX14_row 76 = .ok (.aload_n 0, 1) := by decide +kernel
theorem dr_cX14_row_77 : decode cX14_row 77 = .ok (.getfield 11, 3) := by decide +kernel
theorem dr_cX14_row_80 : decode cX14_row 80 = .ok (.invokestatic 233, 3) := by decide +kernel
theorem wr_10_97 : (Jvm.Cond.code ({ cls := "SpillForgeModel", name := "operation", desc := "(Ljava/lang/String;)I" } : Jvm.MethodName) prog_14_method_1_code (4 : Nat) (Option.some Jvm.ClassFile.FieldType.int)) ∈ gw := gw_10 97 rfl rfl
theorem wr_10_96 : (Jvm.Cond.static ({ cls := "SpillForgeModel", name := "operation", desc := "(Ljava/lang/String;)I" } : Jvm.MethodName)) ∈ gw := gw_10 96 rfl rfl
theorem dr_cX14_row_83 : decode cX14_row 83 = .ok (.goto 4, 3) := by decide +kernel
theorem dr_cX14_row_98 : decode cX14_row 98 = .ok (.aload_n 0, 1) := by decide +kernel
theorem dr_cX14_row_99 : decode cX14_row 99 = .ok (.invokevirtual 35, 3) := by decide +kernel
theorem dr_cX14_row_102 : decode cX14_row 102 = .ok (.aload_n 0, 1) := by decide +kernel
theorem dr_cX14_row_103 : decode cX14_row 103 = .ok (.aload_n 1, 1) := by decide +kernel
theorem dr_cX14_row_104 : decode cX14_row 104 = .ok (.iconst 1, 1) := by decide +kernel
theorem dr_cX14_row_105 : decode cX14_row 105 = .ok (.invokevirtual 223, 3) := by decide +kernel
theorem dr_cX14_row_108 : decode cX14_row 108 = .ok (.return_, 1) := by decide +kernel
theorem dr_cX14_row_50 : decode cX14_row 50 = .ok (.aload_n 0, 1) := by decide +kernel
theorem dr_cX14_row_51 : decode cX14_row 51 = .ok (.invokevirtual 35, 3) := by decide +kernel
theorem dr_cX14_row_54 : decode cX14_row 54 = .ok (.aload_n 1, 1) := by decide +kernel
theorem dr_cX14_row_55 : decode cX14_row 55 = .ok (.bipush 20, 2) := by decide +kernel
theorem dr_cX14_row_57 : decode cX14_row 57 = .ok (.putfield 220, 3) := by decide +kernel
theorem dr_cX14_row_60 : decode cX14_row 60 = .ok (.return_, 1) := by decide +kernel
theorem dr_cX14_row_9 : decode cX14_row 9 = .ok (.aload_n 0, 1) := by decide +kernel
theorem dr_cX14_row_10 : decode cX14_row 10 = .ok (.invokevirtual 35, 3) := by decide +kernel
theorem dr_cX14_row_13 : decode cX14_row 13 = .ok (.aload_n 1, 1) := by decide +kernel
theorem dr_cX14_row_14 : decode cX14_row 14 = .ok (.bipush 22, 2) := by decide +kernel
theorem dr_cX14_row_16 : decode cX14_row 16 = .ok (.putfield 220, 3) := by decide +kernel
theorem dr_cX14_row_19 : decode cX14_row 19 = .ok (.aload_n 0, 1) := by decide +kernel
theorem dr_cX14_row_20 : decode cX14_row 20 = .ok (.aload_n 1, 1) := by decide +kernel
theorem dr_cX14_row_21 : decode cX14_row 21 = .ok (.iconst 0, 1) := by decide +kernel
theorem dr_cX14_row_22 : decode cX14_row 22 = .ok (.invokevirtual 223, 3) := by decide +kernel
theorem dr_cX14_row_25 : decode cX14_row 25 = .ok (.return_, 1) := by decide +kernel
abbrev ky_675423_Arrays_copyOf : gKey := (cJ7_copyOf_59c91, 3, "java/util/Arrays", (some (FieldType.array FieldType.int)), [], "copyOf", fun _ _ => True)
def pp_675423_Arrays_copyOf (D : va_G) (I : FieldType → ClassId) (P675415 : List Nat) (F675416 : Nat → va_E) (q675417 : Nat) (p675418 : Int32) (f675419 : Nat → Int32) (n675420 : Nat) : Option Value → va_W → Nat → Nat → Prop := fun r w dc ds => ∃ (P675453 : List Nat) (F675454 : Nat → va_E) (q675451 : Nat) (f675452 : Nat → Int32), r = some (.ref q675451) ∧ w = va_pl P675453 F675454 ∧ rSub P675415 P675453 ∧ rFr [] P675415 F675416 F675454 ∧ F675454 q675417 = .inl (I .int, n675420, .inl f675419) ∧ F675454 q675451 = .inl (I .int, p675418.toInt.toNat, .inl f675452) ∧ q675451 ∈ P675453 ∧ q675451 ∉ P675415 ∧ dc ≤ 1 ∧ ds ≤ p675418.toInt.toNat ∧ (p675418.toInt.toNat : Int) = p675418.toInt ∧ glC f675419 f675452 (n675420 : Int) ∧ glB f675419 f675452 ∧ tr_RArrays_copyOf4 p675418 f675419 n675420 f675452
set_option maxRecDepth 100000 in
set_option maxHeartbeats 4000000 in
theorem cp_675423_Arrays_copyOf (l : Launch) (hl0 : l.stackTraces = false) (D : va_G) (I : FieldType → ClassId) (P675415 : List Nat) (F675416 : Nat → va_E) (q675417 : Nat) (p675418 : Int32) (f675419 : Nat → Int32) (n675420 : Nat) (hmq675417 : q675417 ∈ P675415) (heq675417 : F675416 q675417 = .inl (I .int, n675420, .inl f675419)) (bp675418 : gB p675418 32 32768) (x675421 : (n675420 : Int) < p675418.toInt) (x675422 : ((n675420 : Int) ≤ 16777216)) : CtA (gV D I) l yJ7_copyOf_59c91 cJ7_copyOf_59c91 3 (some (FieldType.array FieldType.int)) 1 18 1 p675418.toInt.toNat [.ref q675417, .int p675418] (va_pl P675415 F675416) (pp_675423_Arrays_copyOf D I P675415 F675416 q675417 p675418 f675419 n675420) gNA := by
  refine CtA_ofF hl0 (by decide +kernel) (Nat.le_of_ble_eq_true rfl) ?_
  refine G_iload_n 1 dr_cJ7_copyOf_59c91_0 rfl ?_
  refine G_aload_n 0 dr_cJ7_copyOf_59c91_1 rfl ?_
  refine Gp_alen (Int32.ofNat n675420) 0 hmq675417 heq675417 dr_cJ7_copyOf_59c91_2 rfl rfl (G_nam fun z675424 hz675424 => ?_)
  have ez675424 : z675424.toInt = (n675420 : Nat) := gI_ofM hz675424 (by omega)
  have bz675424 : gB z675424 0 16777216 := ⟨by omega, by omega⟩
  refine G_icmp_ne 14 dr_cJ7_copyOf_59c91_3 (by decide +kernel) (fun hc675425 => ?_) (fun hc => absurd (show False by have := gC_eq hc; omega) not_false)
  have r675427 : p675418.toInt ≠ z675424.toInt := gC_ne hc675425
  refine G_iload_n 1 dr_cJ7_copyOf_59c91_14 rfl ?_
  refine G_newa 0 (p675418.toInt.toNat, .inl (fun _ => 0)) dr_cJ7_copyOf_59c91_15 rfl rfl (by intro C h; cases h) wr_1_95 (fun _ => ga_int _ _) (g_n0 (by omega)) rfl (show p675418.toInt.toNat * 4 ≤ 536870912 by omega) (show 0 + 1 ≤ 1 by first | omega | decide) (show 0 + p675418.toInt.toNat ≤ p675418.toInt.toNat by first | omega | decide) (fun q675428 => Gp_in (fun P675429 F675430 hq675431 hP675432 e675433 n675434 => ?_))
  refine G_widen (cs' := 1) (sl' := p675418.toInt.toNat) (by omega) (by omega) ?_
  have he675435 : F675430 q675417 = .inl (I .int, n675420, .inl f675419) := (n675434 q675417 (fun h => hq675431 (h ▸ hmq675417))).trans heq675417
  have he675436 : F675430 q675428 = .inl (I .int, p675418.toInt.toNat, .inl (fun _ => 0)) := e675433
  have hm675437 : q675417 ∈ P675429 := (hP675432 q675417).mpr (Or.inl hmq675417)
  have hm675438 : q675428 ∈ P675429 := (hP675432 q675428).mpr (Or.inr rfl)
  have hq675439 : q675428 ∉ P675415 := fun z => hq675431 ((rSub_rf (P := P675415)) q675428 z)
  have hfr675440 : rFr [] P675415 F675416 F675430 := rFr_new (rSub_rf (P := P675415)) hq675431 (rFr_rf (W := []) (P := P675415) (F := F675416)) n675434
  have hsb675441 : rSub P675415 P675429 := rSub_new (rSub_rf (P := P675415)) hP675432
  refine G_astore_n (L' := [(2, .ref q675428), (0, .ref q675417), (1, .int p675418)]) dr_cJ7_copyOf_59c91_17 (Nat.le_of_ble_eq_true rfl) rfl ?_
  refine G_aload_n 1 dr_cJ7_copyOf_59c91_18 rfl ?_
  refine G_iconst 0 dr_cJ7_copyOf_59c91_19 (by decide +kernel) ?_
  refine G_aload_n 0 dr_cJ7_copyOf_59c91_20 rfl ?_
  refine G_iconst 0 dr_cJ7_copyOf_59c91_21 (by decide +kernel) ?_
  refine G_aload_n 1 dr_cJ7_copyOf_59c91_22 rfl ?_
  refine Gp_alen (Int32.ofNat n675420) 0 hm675437 he675435 dr_cJ7_copyOf_59c91_23 rfl rfl (G_nam fun z675442 hz675442 => ?_)
  have ez675442 : z675442.toInt = (n675420 : Nat) := gI_ofM hz675442 (by omega)
  have bz675442 : gB z675442 0 16777216 := ⟨by omega, by omega⟩
  refine G_iload_n 2 dr_cJ7_copyOf_59c91_24 rfl ?_
  refine G_mmin dr_cJ7_copyOf_59c91_25 wr_8_31 wr_3_227 wr_1_6 wr_3_228 (Nat.le_of_ble_eq_true rfl) (Nat.le_of_ble_eq_true rfl) (show 1 ≤ 1 by first | omega | decide) (show p675418.toInt.toNat ≤ p675418.toInt.toNat by first | omega | decide) (G_nam fun z675443 hz675443 => ?_)
  have ez675443 : z675442.toInt ≥ z675443.toInt ∧ p675418.toInt ≥ z675443.toInt ∧ (z675443.toInt = z675442.toInt ∨ z675443.toInt = p675418.toInt) := by have := gI_min hz675443; omega
  have bz675443 : gB z675443 0 32768 := ⟨by omega, by omega⟩
  refine Gp_copyp 0 hm675437 hm675438 he675435 he675436 dr_cJ7_copyOf_59c91_28 wr_8_32 wr_5_113 wr_5_112 wr_1_34 rfl rfl (fun _ => rfl) (by decide) (by decide) (by omega) (by have qa0 : Int32.toInt 0 = 0 := (by decide); omega) (by have qa0 : Int32.toInt 0 = 0 := (by decide); omega) (Nat.le_of_ble_eq_true rfl) (Nat.le_of_ble_eq_true rfl) (fun F675444 e675445 n675446 => ?_)
  obtain ⟨f675447, hf675447⟩ : ∃ z, z = va_cpy f675419 (fun _ => 0) (0 : Int32).toNatClampNeg (0 : Int32).toNatClampNeg z675443.toNatClampNeg := ⟨_, rfl⟩
  rw [← hf675447] at e675445
  have he675448 : F675444 q675417 = .inl (I .int, n675420, .inl f675419) := (n675446 q675417 (fun h => hq675439 (h ▸ hmq675417))).trans he675435
  have he675449 : F675444 q675428 = .inl (I .int, p675418.toInt.toNat, .inl f675447) := e675445
  have hfr675450 : rFr [] P675415 F675416 F675444 := rFr_newp hq675439 hfr675440 n675446
  refine G_aload_n 0 dr_cJ7_copyOf_59c91_31 rfl ?_
  exact G_aretA (FieldType.array FieldType.int) dr_cJ7_copyOf_59c91_32 rfl (by first | exact Or.inl ⟨_, rfl⟩ | exact Or.inr ⟨_, rfl⟩) (Or.inr ⟨_, rfl⟩) (Nat.le_of_ble_eq_true rfl) (show p675418.toInt.toNat ≤ p675418.toInt.toNat by omega) ⟨P675429, F675444, q675428, f675447, rfl, rfl, hsb675441, hfr675450, he675448, he675449, hm675438, hq675439, (Nat.le_of_ble_eq_true rfl), (by omega), (by omega), (glC_cpy hf675447 (by decide) (by decide) (by omega)), (glB_cpy hf675447), (fun R c1 => c1 z675424 z675442 z675443 f675447 ez675424 r675427 ez675442 ez675443 hf675447)⟩
/- tr_RReader_goal: a.0...at, a.0...kind, a.0...place, a.0...value, a.0...goalN, a.0.goalPlaces.#, a.0.goalPlaces.[], a.0.goals.#, a.0.goals.[] -/
def tr_RReader_goal (a0_n : Int32) (a0_at : Int32) (a0_kind : Int32) (a0_place : Int32) (a0_value : Int32) (a0_goalN : Int32) (a0_t_v : Nat → Int32) (p : Nat → Int32) (p2 : Nat) (p3 : Nat → Int32) (p4 : Nat) (o1 : Int32) (o2 : Int32) (o3 : Int32) (o4 : Int32) (o5 : Int32) (o6 : Nat) (o7 : Nat → Int32) (o8 : Nat) (o9 : Nat → Int32) (o10 : gTx) : Prop := ∀ R : (Int32) → (Int32) → (Int32) → (Int32) → (Int32) → (Nat) → (Nat → Int32) → (Nat) → (Nat → Int32) → (gTx) → Prop,
  (∀ (x1 : Int32) (x2 : Nat → Int32) (x3 : gTx) (x4 : Int32) (x5 : Int32) (x6 : Int32) (x7 : Int32) (x8 : Nat → Int32) (x9 : Int32), x1.toInt = (p4 : Nat) → a0_goalN.toInt ≠ x1.toInt → x2 = upd p a0_goalN.toNatClampNeg a0_place → gB x4 0 8192 → gB x5 0 6 → gB x6 0 8192 → tr_RReader_want2 (3 : Int32) a0_n a0_at a0_kind a0_value a0_t_v x4 x5 x6 x7 x3 → x8 = upd p3 a0_goalN.toNatClampNeg a0_value → x9.toInt = a0_goalN.toInt + 1 → R x4 x5 x6 x7 x9 p2 x2 p4 x8 x3) →
  (∀ (x1 : Int32) (x2 : Int32) (x3 : Nat → Int32) (x4 : Int32) (x5 : Nat → Int32) (x6 : Nat → Int32) (x7 : gTx) (x8 : Int32) (x9 : Int32) (x10 : Int32) (x11 : Int32) (x12 : Nat → Int32) (x13 : Int32), x1.toInt = (p4 : Nat) → a0_goalN.toInt = x1.toInt → x2.toInt = 2 * a0_goalN.toInt → tr_RArrays_copyOf4 x2 p3 p4 x3 → x4.toInt = 2 * a0_goalN.toInt → tr_RArrays_copyOf4 x4 p p2 x5 → x6 = upd x5 a0_goalN.toNatClampNeg a0_place → gB x8 0 8192 → gB x9 0 6 → gB x10 0 8192 → tr_RReader_want2 (3 : Int32) a0_n a0_at a0_kind a0_value a0_t_v x8 x9 x10 x11 x7 → x12 = upd x3 a0_goalN.toNatClampNeg a0_value → x13.toInt = a0_goalN.toInt + 1 → R x8 x9 x10 x11 x13 x4.toInt.toNat x6 x2.toInt.toNat x12 x7) →
  R o1 o2 o3 o4 o5 o6 o7 o8 o9 o10
/- tx_RReader_goal: throws -/
def tx_RReader_goal (a0_kind : Int32) (a0_goalN : Int32) (p : Nat → Int32) (p2 : Nat) (p3 : Nat → Int32) (p4 : Nat) : Prop := ∀ R : Prop,
  (∀ (x1 : Int32), x1.toInt = (p4 : Nat) → a0_goalN.toInt ≠ x1.toInt → tx_RReader_want2 (3 : Int32) a0_kind → R) →
  (∀ (x1 : Int32) (x2 : Int32) (x3 : Nat → Int32) (x4 : Int32) (x5 : Nat → Int32), x1.toInt = (p4 : Nat) → a0_goalN.toInt = x1.toInt → x2.toInt = 2 * a0_goalN.toInt → tr_RArrays_copyOf4 x2 p3 p4 x3 → x4.toInt = 2 * a0_goalN.toInt → tr_RArrays_copyOf4 x4 p p2 x5 → tx_RReader_want2 (3 : Int32) a0_kind → R) →
  R
abbrev ky_675333_Reader_goal : gKey := (cX14_goal, 2, "SpillForgeModel$Reader", (some FieldType.int), [], "goal", fun _ _ => True)
def pp_675333_Reader_goal (D : va_G) (I : FieldType → ClassId) (P675299 : List Nat) (F675300 : Nat → va_E) (q675301 : Nat) (q675302 : Nat) (q675303 : Nat) (q675304 : Nat) (p675305 : Int32) (p675306 : Int32) (p675307 : Int32) (p675308 : Int32) (p675309 : Int32) (p675310 : Int32) (qo675311 : Nat) (p675312 : Int32) (p675313 : Int32) (p675314 : Int32) (p675315 : Int32) (f675316 : Nat → Int32) (f675317 : Nat → Int32) (n675318 : Nat) (f675319 : Nat → Int32) (n675320 : Nat) (xt675321 : gTx) : Option Value → va_W → Nat → Nat → Prop := fun r w dc ds => ∃ (P675666 : List Nat) (F675667 : Nat → va_E) (o675654 : Int32) (o675655 : Int32) (o675656 : Int32) (o675657 : Int32) (q675658 : Nat) (o675659 : Int32) (q675660 : Nat) (n675661 : Nat) (f675662 : Nat → Int32) (q675663 : Nat) (n675664 : Nat) (f675665 : Nat → Int32) (xt675668 : gTx), r = some (.int p675309) ∧ w = va_pl P675666 F675667 ∧ rSub P675299 P675666 ∧ rFr [q675304, q675303, q675301] P675299 F675300 F675667 ∧ F675667 q675660 = .inl (I .int, n675661, .inl f675662) ∧ F675667 q675663 = .inl (I .int, n675664, .inl f675665) ∧ F675667 q675301 = .inr (19, [.ref q675302, .int p675305, .int o675654, .int o675655, .int o675656, .int o675657, .int p675307, .ref q675658, .int p675312, .int p675313, .int p675314, .ref q675660, .ref q675663, .int o675659]) ∧ F675667 q675302 = .inl (I .byte, 8192, .inl f675316) ∧ q675660 ∈ P675666 ∧ (q675660 = q675303 ∨ q675660 ∉ P675299) ∧ q675663 ∈ P675666 ∧ (q675663 = q675304 ∨ q675663 ∉ P675299) ∧ dc ≤ (16 * (o675654.toInt - p675306.toInt)).toNat + 2 ∧ ds ≤ (160 * (o675654.toInt - p675306.toInt)).toNat + 4 * (n675664 - n675320) ∧ gB o675654 0 8192 ∧ gB o675655 0 6 ∧ gB o675656 0 8192 ∧ gB o675659 1 1000000 ∧ p675306.toInt ≤ o675654.toInt ∧ prP o675655 p675306 o675654 ∧ o675654.toInt ≤ p675305.toInt ∧ tP I P675666 F675667 o675655 q675658 q675663 q675660 xt675668 ∧ vP o675655 o675657 ∧ vP 3 p675309 ∧ p675307.toInt = 3 ∧ (n675664 : Int) ≤ 2 * (n675320 : Int) ∧ q675663 ≠ q675660 ∧ glC f675319 f675665 p675315.toInt ∧ glL f675665 p675315 p675309 ∧ glP f675662 ∧ (n675664 : Int) = (n675661 : Int) ∧ o675659.toInt = p675315.toInt + 1 ∧ o675659.toInt ≤ (n675664 : Int) ∧ 16 ≤ (n675664 : Int) ∧ (n675664 : Int) ≤ 2 * o675659.toInt + 16 ∧ (n675320 : Int) ≤ (n675664 : Int) ∧ tr_RReader_goal p675305 p675306 p675307 p675308 p675309 p675315 f675316 f675317 n675318 f675319 n675320 o675654 o675655 o675656 o675657 o675659 n675661 f675662 n675664 f675665 xt675668
def xp_675333_Reader_goal (D : va_G) (I : FieldType → ClassId) (P675299 : List Nat) (F675300 : Nat → va_E) (q675301 : Nat) (q675302 : Nat) (q675303 : Nat) (q675304 : Nat) (p675305 : Int32) (p675306 : Int32) (p675307 : Int32) (p675308 : Int32) (p675309 : Int32) (p675310 : Int32) (qo675311 : Nat) (p675312 : Int32) (p675313 : Int32) (p675314 : Int32) (p675315 : Int32) (f675316 : Nat → Int32) (f675317 : Nat → Int32) (n675318 : Nat) (f675319 : Nat → Int32) (n675320 : Nat) (xt675321 : gTx) : String → Nat → va_W → Nat → Nat → Prop := fun E q w dc ds => ∃ (P675670 : List Nat) (F675669 : Nat → va_E), E = "SpillForgeModel$Wrong" ∧ w = va_pl P675670 F675669 ∧ rSub P675299 P675670 ∧ rFr [q675303, q675301] P675299 F675300 F675669 ∧ q ∈ P675670 ∧ q ∉ P675299 ∧ wrF F675669 q ∧ dc ≤ (16 * (p675305.toInt - p675306.toInt)).toNat + 3 ∧ ds ≤ (160 * (p675305.toInt - p675306.toInt)).toNat + 4 * n675320 + 7 ∧ tx_RReader_goal p675307 p675315 f675317 n675318 f675319 n675320
set_option maxRecDepth 100000 in
set_option maxHeartbeats 4000000 in
theorem cp_675333_Reader_goal (l : Launch) (hl0 : l.stackTraces = false) (D : va_G) (I : FieldType → ClassId) (P675299 : List Nat) (F675300 : Nat → va_E) (q675301 : Nat) (q675302 : Nat) (q675303 : Nat) (q675304 : Nat) (p675305 : Int32) (p675306 : Int32) (p675307 : Int32) (p675308 : Int32) (p675309 : Int32) (p675310 : Int32) (qo675311 : Nat) (p675312 : Int32) (p675313 : Int32) (p675314 : Int32) (p675315 : Int32) (f675316 : Nat → Int32) (f675317 : Nat → Int32) (n675318 : Nat) (f675319 : Nat → Int32) (n675320 : Nat) (xt675321 : gTx) (hmq675301 : q675301 ∈ P675299) (hmq675302 : q675302 ∈ P675299) (hmq675303 : q675303 ∈ P675299) (hmq675304 : q675304 ∈ P675299) (heq675301 : F675300 q675301 = .inr (19, [.ref q675302, .int p675305, .int p675306, .int p675307, .int p675308, .int p675309, .int p675310, .ref qo675311, .int p675312, .int p675313, .int p675314, .ref q675303, .ref q675304, .int p675315])) (heq675302 : F675300 q675302 = .inl (I .byte, 8192, .inl f675316)) (heq675303 : F675300 q675303 = .inl (I .int, n675318, .inl f675317)) (heq675304 : F675300 q675304 = .inl (I .int, n675320, .inl f675319)) (hneq675302q675303 : q675302 ≠ q675303) (hneq675302q675304 : q675302 ≠ q675304) (hneq675303q675304 : q675303 ≠ q675304) (bp675305 : gB p675305 0 8192) (bp675306 : gB p675306 0 8192) (bp675307 : gB p675307 0 6) (bp675308 : gB p675308 0 8192) (bp675310 : gB p675310 0 6) (bp675312 : gB p675312 (-1) 8192) (bp675313 : gB p675313 0 4) (bp675314 : gB p675314 0 1000000) (bp675315 : gB p675315 0 1000000) (bf675316 : gF f675316 (-128) 127) (x675322 : p675306.toInt ≤ p675305.toInt) (x675323 : tP I P675299 F675300 p675307 qo675311 q675304 q675303 xt675321) (x675324 : vP p675307 p675309) (x675325 : (n675320 : Int) = (n675318 : Int)) (x675326 : p675315.toInt ≤ (n675320 : Int)) (x675327 : 16 ≤ (n675320 : Int)) (x675328 : (n675320 : Int) ≤ 2 * p675315.toInt + 16) (x675329 : p675315.toInt ≤ 16000) (x675330 : glP f675317) (x675331 : ((n675318 : Int) ≤ 16777216)) (x675332 : ((n675320 : Int) ≤ 16777216)) : CtA (gV D I) l yX14_goal cX14_goal 2 (some FieldType.int) 9 199 ((16 * (p675305.toInt - p675306.toInt)).toNat + 3) ((160 * (p675305.toInt - p675306.toInt)).toNat + 4 * n675320 + 7) [.ref q675301] (va_pl P675299 F675300) (pp_675333_Reader_goal D I P675299 F675300 q675301 q675302 q675303 q675304 p675305 p675306 p675307 p675308 p675309 p675310 qo675311 p675312 p675313 p675314 p675315 f675316 f675317 n675318 f675319 n675320 xt675321) (xp_675333_Reader_goal D I P675299 F675300 q675301 q675302 q675303 q675304 p675305 p675306 p675307 p675308 p675309 p675310 qo675311 p675312 p675313 p675314 p675315 f675316 f675317 n675318 f675319 n675320 xt675321) := by
  refine CtA_of hl0 (by decide) (Nat.le_of_ble_eq_true rfl) ?_
  have bp675309 := gB_any p675309
  refine G_aload_n 0 dr_cX14_goal_0 rfl ?_
  refine Gp_get 13 hmq675301 heq675301 dr_cX14_goal_1 (gk_X14 D I) (Nat.le_of_ble_eq_true rfl) wr_9_51 rfl ?_
  refine G_aload_n 0 dr_cX14_goal_4 rfl ?_
  refine Gp_get 12 hmq675301 heq675301 dr_cX14_goal_5 (gk_X14 D I) (Nat.le_of_ble_eq_true rfl) wr_9_50 rfl ?_
  refine Gp_alen (Int32.ofNat n675320) 0 hmq675304 heq675304 dr_cX14_goal_8 rfl rfl (G_nam fun z675334 hz675334 => ?_)
  have ez675334 : z675334.toInt = (n675320 : Nat) := gI_ofM hz675334 (by omega)
  have bz675334 : gB z675334 0 16777216 := ⟨by omega, by omega⟩
  refine G_icmp_ne 46 dr_cX14_goal_9 (by decide +kernel) (fun hc675335 => ?_) (fun hc675335 => ?_)
  · have r675336 : p675315.toInt ≠ z675334.toInt := gC_ne hc675335
    refine G_aload_n 0 dr_cX14_goal_46 rfl ?_
    refine Gp_get 11 hmq675301 heq675301 dr_cX14_goal_47 (gk_X14 D I) (Nat.le_of_ble_eq_true rfl) wr_9_49 rfl ?_
    refine G_aload_n 0 dr_cX14_goal_50 rfl ?_
    refine Gp_get 13 hmq675301 heq675301 dr_cX14_goal_51 (gk_X14 D I) (Nat.le_of_ble_eq_true rfl) wr_9_51 rfl ?_
    refine G_aload_n 0 dr_cX14_goal_54 rfl ?_
    refine Gp_get 4 hmq675301 heq675301 dr_cX14_goal_55 (gk_X14 D I) (Nat.le_of_ble_eq_true rfl) wr_9_40 rfl ?_
    refine Gp_iast 0 hmq675303 heq675303 dr_cX14_goal_58 rfl (gB_inr (by omega) (by omega)) (fun F675337 e675338 n675339 => ?_)
    obtain ⟨f675340, hf675340⟩ : ∃ z, z = upd f675317 p675315.toNatClampNeg p675308 := ⟨_, rfl⟩
    rw [← hf675340] at e675338
    have he675341 : F675337 q675301 = .inr (19, [.ref q675302, .int p675305, .int p675306, .int p675307, .int p675308, .int p675309, .int p675310, .ref qo675311, .int p675312, .int p675313, .int p675314, .ref q675303, .ref q675304, .int p675315]) := (n675339 q675301 (rn_oa heq675301 heq675303)).trans heq675301
    have he675342 : F675337 q675302 = .inl (I .byte, 8192, .inl f675316) := (n675339 q675302 hneq675302q675303).trans heq675302
    have he675343 : F675337 q675304 = .inl (I .int, n675320, .inl f675319) := (n675339 q675304 (Ne.symm hneq675303q675304)).trans heq675304
    have he675344 : F675337 q675303 = .inl (I .int, n675318, .inl f675340) := e675338
    have hfr675345 : rFr [q675303] P675299 F675300 F675337 := rFr_put (rFr_rf (W := []) (P := P675299) (F := F675300)) n675339
    have tp675346 : tP I P675299 F675337 p675307 qo675311 q675304 q675303 xt675321 := tP_pa x675323 heq675303 (Or.inr rfl) n675339
    refine G_aload_n 0 dr_cX14_goal_59 rfl ?_
    refine G_iconst 3 dr_cX14_goal_60 (by decide +kernel) ?_
    refine Gw_callV (As := [.int 3]) (gV_ok D I) (cp_674531_Reader_want l hl0 D I P675299 F675337 q675301 q675302 3 p675305 p675306 p675307 p675308 p675309 p675310 qo675311 p675312 p675313 p675314 q675303 q675304 p675315 f675316 xt675321 hmq675301 hmq675302 he675341 he675342 (gB_w (gBl (show Int32.toInt 3 = 3 by decide)) (by decide) (by decide)) bp675305 bp675306 bp675307 bp675308 bp675310 bp675312 bp675313 bp675314 bp675315 bf675316 (by omega) hmq675304 hmq675303 tp675346 x675324) dr_cX14_goal_61 ⟨wr_9_93, wr_1_32, wr_9_96, by decide, rfl, (Nat.le_of_ble_eq_true rfl), (Nat.le_of_ble_eq_true rfl)⟩ wr_9_95 wr_p_80 hmq675301 he675341 rfl (show 0 + ((16 * (p675305.toInt - p675306.toInt)).toNat + 1) ≤ ((16 * (p675305.toInt - p675306.toInt)).toNat + 3) by first | omega | decide) (show 0 + ((160 * (p675305.toInt - p675306.toInt)).toNat + 7) ≤ ((160 * (p675305.toInt - p675306.toInt)).toNat + 4 * n675320 + 7) by first | omega | decide) (Nat.le_of_ble_eq_true rfl) (fun r675350 w675351 dc675347 ds675348 hp675349 => ?_) (fun _ qx675363 _ dc675361 ds675362 hx => by obtain ⟨P675359, F675360, rfl, rfl, hsb675352, hfr675353, hq675354, hqn675355, hwr675356, hdc675357, hds675358, ht675364⟩ := hx; exact GT_outA rfl (show 0 + dc675361 ≤ ((16 * (p675305.toInt - p675306.toInt)).toNat + 3) by omega) (show 0 + ds675362 ≤ ((160 * (p675305.toInt - p675306.toInt)).toNat + 4 * n675320 + 7) by omega) ⟨P675359, F675360, rfl, rfl, (rSub_tr (rSub_rf (P := P675299)) hsb675352), (rFr_v (show rFr [q675303] P675299 F675300 F675360 from rFr_call (rSub_rf (P := P675299)) hfr675345 hfr675353 (fun b hb hn => ⟨(nm_c (fun e => hn (e ▸ List.mem_cons_self)) nm_n), nm_n⟩)) (fun b hn => (nm_c (fun e => hn (e ▸ List.mem_cons_self)) nm_n))), hq675354, (fun z => hqn675355 ((rSub_rf (P := P675299)) _ z)), hwr675356, (by omega), (by omega), (fun R c1 c2 => c1 z675334 ez675334 r675336 ht675364)⟩)
    obtain ⟨P675379, F675380, o675365, o675366, o675367, o675368, q675369, xt675378, rfl, rfl, hsb675381, hfr675382, he675383, he675384, hdc, hds, bo675365, bo675366, bo675367, x675370, x675371, x675372, x675373, x675374, x675375, x675376, ht675377⟩ := hp675349
    have hm675385 : q675301 ∈ P675379 := hsb675381 q675301 hmq675301
    have hm675386 : q675302 ∈ P675379 := hsb675381 q675302 hmq675302
    have hm675387 : q675303 ∈ P675379 := hsb675381 q675303 hmq675303
    have hm675388 : q675304 ∈ P675379 := hsb675381 q675304 hmq675304
    have hsb675389 : rSub P675299 P675379 := rSub_tr (rSub_rf (P := P675299)) hsb675381
    have he675390 : F675380 q675303 = .inl (I .int, n675318, .inl f675340) := (hfr675382 q675303 hmq675303 (nm_c (rn_ao he675344 he675341) nm_n)).trans he675344
    have he675391 : F675380 q675304 = .inl (I .int, n675320, .inl f675319) := (hfr675382 q675304 hmq675304 (nm_c (rn_ao he675343 he675341) nm_n)).trans he675343
    have hfr675392 : rFr [q675303, q675301] P675299 F675300 F675380 := rFr_call (rSub_rf (P := P675299)) hfr675345 hfr675382 (fun b hb hn => ⟨(nm_c (fun e => hn (e ▸ List.mem_cons_self)) nm_n), (nm_c (fun e => hn (e ▸ (List.mem_cons_of_mem _ List.mem_cons_self))) nm_n)⟩)
    have bo675368 := gB_any o675368
    rw [show Int32.toInt 3 = 3 from by decide] at x675376
    change G _ _ _ _ _ _ _ (.int p675309 :: _) _ _ _
    refine G_widen (cs' := (16 * (o675365.toInt - p675306.toInt)).toNat) (sl' := (160 * (o675365.toInt - p675306.toInt)).toNat) (by omega) (by omega) ?_
    refine G_istore_n (L' := [(1, .int p675309), (0, .ref q675301)]) dr_cX14_goal_64 (Nat.le_of_ble_eq_true rfl) rfl ?_
    refine G_aload_n 1 dr_cX14_goal_65 rfl ?_
    refine Gp_get 12 hm675385 he675383 dr_cX14_goal_66 (gk_X14 D I) (Nat.le_of_ble_eq_true rfl) wr_9_50 rfl ?_
    refine G_aload_n 1 dr_cX14_goal_69 rfl ?_
    refine Gp_get 13 hm675385 he675383 dr_cX14_goal_70 (gk_X14 D I) (Nat.le_of_ble_eq_true rfl) wr_9_51 rfl ?_
    refine G_iload_n 0 dr_cX14_goal_73 rfl ?_
    refine Gp_iast 0 hm675388 he675391 dr_cX14_goal_74 rfl (gB_inr (by omega) (by omega)) (fun F675393 e675394 n675395 => ?_)
    obtain ⟨f675396, hf675396⟩ : ∃ z, z = upd f675319 p675315.toNatClampNeg p675309 := ⟨_, rfl⟩
    rw [← hf675396] at e675394
    have he675397 : F675393 q675303 = .inl (I .int, n675318, .inl f675340) := (n675395 q675303 hneq675303q675304).trans he675390
    have he675398 : F675393 q675301 = .inr (19, [.ref q675302, .int p675305, .int o675365, .int o675366, .int o675367, .int o675368, .int p675307, .ref q675369, .int p675312, .int p675313, .int p675314, .ref q675303, .ref q675304, .int p675315]) := (n675395 q675301 (rn_oa he675383 he675391)).trans he675383
    have he675399 : F675393 q675302 = .inl (I .byte, 8192, .inl f675316) := (n675395 q675302 hneq675302q675304).trans he675384
    have he675400 : F675393 q675304 = .inl (I .int, n675320, .inl f675396) := e675394
    have hfr675401 : rFr [q675304, q675303, q675301] P675299 F675300 F675393 := rFr_put hfr675392 n675395
    have tp675402 : tP I P675379 F675393 o675366 q675369 q675304 q675303 xt675378 := tP_pa x675373 he675391 (Or.inl rfl) n675395
    refine G_aload_n 1 dr_cX14_goal_75 rfl ?_
    refine G_dup dr_cX14_goal_76 rfl ?_
    refine Gp_get 13 hm675385 he675398 dr_cX14_goal_77 (gk_X14 D I) (Nat.le_of_ble_eq_true rfl) wr_9_51 rfl ?_
    refine G_iconst 1 dr_cX14_goal_80 (by decide +kernel) ?_
    refine G_iadd dr_cX14_goal_81 (G_nam fun z675403 hz675403 => ?_)
    have ez675403 : z675403.toInt = p675315.toInt + 1 := by rw [gI_add hz675403 bp675315 (gBl (show Int32.toInt 1 = 1 by decide)) (by decide) (by decide), show Int32.toInt 1 = 1 from by decide]
    have bz675403 : gB z675403 1 1000001 := gB_add (gI_add hz675403 bp675315 (gBl (show Int32.toInt 1 = 1 by decide)) (by decide) (by decide)) bp675315 (gBl (show Int32.toInt 1 = 1 by decide)) (by decide) (by decide)
    refine Gp_put 13 hm675385 he675398 dr_cX14_goal_82 (gk_X14 D I) (Nat.le_of_ble_eq_true rfl) wr_9_51 rfl rfl rfl (Nat.le_of_ble_eq_true rfl) (fun F675404 e675405 n675406 => ?_)
    have he675407 : F675404 q675303 = .inl (I .int, n675318, .inl f675340) := (n675406 q675303 (rn_ao he675397 he675398)).trans he675397
    have he675408 : F675404 q675304 = .inl (I .int, n675320, .inl f675396) := (n675406 q675304 (rn_ao he675400 he675398)).trans he675400
    have he675409 : F675404 q675302 = .inl (I .byte, 8192, .inl f675316) := (n675406 q675302 (rn_ao he675399 he675398)).trans he675399
    have he675410 : F675404 q675301 = .inr (19, [.ref q675302, .int p675305, .int o675365, .int o675366, .int o675367, .int o675368, .int p675307, .ref q675369, .int p675312, .int p675313, .int p675314, .ref q675303, .ref q675304, .int z675403]) := e675405
    have hfr675411 : rFr [q675304, q675303, q675301] P675299 F675300 F675404 := rFr_put' (List.mem_cons_of_mem _ (List.mem_cons_of_mem _ List.mem_cons_self)) hfr675401 n675406
    have tp675412 : tP I P675379 F675404 o675366 q675369 q675304 q675303 xt675378 := tP_put tp675402 he675398 (by decide) n675406
    refine G_iload_n 0 dr_cX14_goal_85 rfl ?_
    exact G_iretA dr_cX14_goal_86 rfl (show (16 * (o675365.toInt - p675306.toInt)).toNat ≤ ((16 * (p675305.toInt - p675306.toInt)).toNat + 3) by omega) (show (160 * (o675365.toInt - p675306.toInt)).toNat ≤ ((160 * (p675305.toInt - p675306.toInt)).toNat + 4 * n675320 + 7) by omega) ⟨P675379, F675404, o675365, o675366, o675367, o675368, q675369, z675403, q675303, n675318, f675340, q675304, n675320, f675396, xt675378, rfl, rfl, hsb675389, hfr675411, he675407, he675408, he675410, he675409, hm675387, (Or.inl rfl), hm675388, (Or.inl rfl), (by omega), (by omega), bo675365, bo675366, bo675367, ⟨by omega, by omega⟩, (by omega), x675371, (by omega), tp675412, x675374, x675375, (by omega), (by omega), (Ne.symm hneq675303q675304), (glC_u hf675396 glC_rf (by omega)), (glL_u hf675396), (glP_u hf675340 x675330 (by first | assumption | exact ⟨by omega, by omega⟩)), (by omega), (by omega), (by omega), (by omega), (by omega), (by omega), (fun R c1 c2 => c1 z675334 f675340 xt675378 o675365 o675366 o675367 o675368 f675396 z675403 ez675334 r675336 hf675340 bo675365 bo675366 bo675367 ht675377 hf675396 ez675403)⟩
  · have r675413 : p675315.toInt = z675334.toInt := gC_eq hc675335
    have bz675334' : gB z675334 0 1000000 := ⟨by omega, by omega⟩
    refine G_aload_n 0 dr_cX14_goal_12 rfl ?_
    refine G_aload_n 0 dr_cX14_goal_13 rfl ?_
    refine Gp_get 12 hmq675301 heq675301 dr_cX14_goal_14 (gk_X14 D I) (Nat.le_of_ble_eq_true rfl) wr_9_50 rfl ?_
    refine G_iconst 2 dr_cX14_goal_17 (by decide +kernel) ?_
    refine G_aload_n 0 dr_cX14_goal_18 rfl ?_
    refine Gp_get 13 hmq675301 heq675301 dr_cX14_goal_19 (gk_X14 D I) (Nat.le_of_ble_eq_true rfl) wr_9_51 rfl ?_
    refine G_imul dr_cX14_goal_22 (G_nam fun z675414 hz675414 => ?_)
    have ez675414 : z675414.toInt = 2 * p675315.toInt := by rw [gI_mul hz675414 (gBl (show Int32.toInt 2 = 2 by decide)) bp675315 (by decide) (by decide) (by decide), show Int32.toInt 2 = 2 from by decide]
    have bz675414 : gB z675414 0 2000000 := gB_mul hz675414 (gBl (show Int32.toInt 2 = 2 by decide)) bp675315 (by decide) (by decide) (by decide) (by decide)
    refine Gw_callS (As := [.ref q675304, .int z675414]) (gV_ok D I) (cp_675423_Arrays_copyOf l hl0 D I P675299 F675300 q675304 z675414 f675319 n675320 hmq675304 heq675304 ⟨by omega, by omega⟩ (by omega) (by omega)) dr_cX14_goal_23 ⟨wr_10_114, wr_1_30, wr_10_116, by decide, rfl, (Nat.le_of_ble_eq_true rfl), (Nat.le_of_ble_eq_true rfl)⟩ wr_10_115 (show 0 + 1 ≤ ((16 * (p675305.toInt - p675306.toInt)).toNat + 3) by first | omega | decide) (show 0 + z675414.toInt.toNat ≤ ((160 * (p675305.toInt - p675306.toInt)).toNat + 4 * n675320 + 7) by first | omega | decide) (Nat.le_of_ble_eq_true rfl) (fun r675458 w675459 dc675455 ds675456 hp675457 => ?_) (fun _ _ _ _ _ z => z.elim)
    obtain ⟨P675466, F675467, q675460, f675461, rfl, rfl, hsb675468, hfr675469, he675470, he675471, hm675472, hq675473, hdc, hds, x675462, x675463, x675464, ht675465⟩ := hp675457
    have hm675474 : q675301 ∈ P675466 := hsb675468 q675301 hmq675301
    have hm675475 : q675302 ∈ P675466 := hsb675468 q675302 hmq675302
    have hm675476 : q675303 ∈ P675466 := hsb675468 q675303 hmq675303
    have hm675477 : q675304 ∈ P675466 := hsb675468 q675304 hmq675304
    have hq675478 : q675460 ∉ P675299 := fun z => hq675473 ((rSub_rf (P := P675299)) q675460 z)
    have hsb675479 : rSub P675299 P675466 := rSub_tr (rSub_rf (P := P675299)) hsb675468
    have he675480 : F675467 q675301 = .inr (19, [.ref q675302, .int p675305, .int p675306, .int p675307, .int p675308, .int p675309, .int p675310, .ref qo675311, .int p675312, .int p675313, .int p675314, .ref q675303, .ref q675304, .int p675315]) := (hfr675469 q675301 hmq675301 nm_n).trans heq675301
    have he675481 : F675467 q675302 = .inl (I .byte, 8192, .inl f675316) := (hfr675469 q675302 hmq675302 nm_n).trans heq675302
    have he675482 : F675467 q675303 = .inl (I .int, n675318, .inl f675317) := (hfr675469 q675303 hmq675303 nm_n).trans heq675303
    have hfr675483 : rFr [] P675299 F675300 F675467 := rFr_call (rSub_rf (P := P675299)) (rFr_rf (W := []) (P := P675299) (F := F675300)) hfr675469 (fun b hb hn => ⟨nm_n, nm_n⟩)
    have tp675484 : tP I P675466 F675467 p675307 qo675311 q675304 q675303 xt675321 := tP_new x675323 hsb675468 (fun b hb => hfr675469 b hb (fun z => by cases z)) (Or.inl rfl) (Or.inl rfl)
    have tp675485 : tP I P675466 F675467 p675307 qo675311 q675460 q675303 xt675321 := tP_new x675323 hsb675468 (fun b hb => hfr675469 b hb (fun z => by cases z)) (Or.inr hq675473) (Or.inl rfl)
    have tp675486 : tP I P675466 F675467 p675307 qo675311 q675304 q675460 xt675321 := tP_new x675323 hsb675468 (fun b hb => hfr675469 b hb (fun z => by cases z)) (Or.inl rfl) (Or.inr hq675473)
    change G _ _ _ _ _ _ _ (.ref q675460 :: _) _ _ _
    refine G_widen (cs' := 1) (sl' := z675414.toInt.toNat) (by omega) (by omega) ?_
    refine Gp_put 12 hm675474 he675480 dr_cX14_goal_26 (gk_X14 D I) (Nat.le_of_ble_eq_true rfl) wr_9_50 rfl rfl rfl (Nat.le_of_ble_eq_true rfl) (fun F675487 e675488 n675489 => ?_)
    have he675490 : F675487 q675302 = .inl (I .byte, 8192, .inl f675316) := (n675489 q675302 (rn_ao he675481 he675480)).trans he675481
    have he675491 : F675487 q675303 = .inl (I .int, n675318, .inl f675317) := (n675489 q675303 (rn_ao he675482 he675480)).trans he675482
    have he675492 : F675487 q675304 = .inl (I .int, n675320, .inl f675319) := (n675489 q675304 (rn_ao he675470 he675480)).trans he675470
    have he675493 : F675487 q675460 = .inl (I .int, z675414.toInt.toNat, .inl f675461) := (n675489 q675460 (fun h => hq675478 (h ▸ hmq675301))).trans he675471
    have he675494 : F675487 q675301 = .inr (19, [.ref q675302, .int p675305, .int p675306, .int p675307, .int p675308, .int p675309, .int p675310, .ref qo675311, .int p675312, .int p675313, .int p675314, .ref q675303, .ref q675460, .int p675315]) := e675488
    have hfr675495 : rFr [q675301] P675299 F675300 F675487 := rFr_put hfr675483 n675489
    have tp675496 : tP I P675466 F675487 p675307 qo675311 q675304 q675303 xt675321 := tP_put tp675484 he675480 (by decide) n675489
    have tp675497 : tP I P675466 F675487 p675307 qo675311 q675460 q675303 xt675321 := tP_put tp675485 he675480 (by decide) n675489
    have tp675498 : tP I P675466 F675487 p675307 qo675311 q675304 q675460 xt675321 := tP_put tp675486 he675480 (by decide) n675489
    refine G_aload_n 0 dr_cX14_goal_29 rfl ?_
    refine G_aload_n 0 dr_cX14_goal_30 rfl ?_
    refine Gp_get 11 hm675474 he675494 dr_cX14_goal_31 (gk_X14 D I) (Nat.le_of_ble_eq_true rfl) wr_9_49 rfl ?_
    refine G_iconst 2 dr_cX14_goal_34 (by decide +kernel) ?_
    refine G_aload_n 0 dr_cX14_goal_35 rfl ?_
    refine Gp_get 13 hm675474 he675494 dr_cX14_goal_36 (gk_X14 D I) (Nat.le_of_ble_eq_true rfl) wr_9_51 rfl ?_
    refine G_imul dr_cX14_goal_39 (G_nam fun z675499 hz675499 => ?_)
    have ez675499 : z675499.toInt = 2 * p675315.toInt := by rw [gI_mul hz675499 (gBl (show Int32.toInt 2 = 2 by decide)) bp675315 (by decide) (by decide) (by decide), show Int32.toInt 2 = 2 from by decide]
    have bz675499 : gB z675499 0 2000000 := gB_mul hz675499 (gBl (show Int32.toInt 2 = 2 by decide)) bp675315 (by decide) (by decide) (by decide) (by decide)
    refine Gw_callS (As := [.ref q675303, .int z675499]) (gV_ok D I) (cp_675423_Arrays_copyOf l hl0 D I P675466 F675487 q675303 z675499 f675317 n675318 hm675476 he675491 ⟨by omega, by omega⟩ (by omega) (by omega)) dr_cX14_goal_40 ⟨wr_10_114, wr_1_30, wr_10_116, by decide, rfl, (Nat.le_of_ble_eq_true rfl), (Nat.le_of_ble_eq_true rfl)⟩ wr_10_115 (show 1 + 1 ≤ ((16 * (p675305.toInt - p675306.toInt)).toNat + 3) by first | omega | decide) (show z675414.toInt.toNat + z675499.toInt.toNat ≤ ((160 * (p675305.toInt - p675306.toInt)).toNat + 4 * n675320 + 7) by first | omega | decide) (Nat.le_of_ble_eq_true rfl) (fun r675503 w675504 dc675500 ds675501 hp675502 => ?_) (fun _ _ _ _ _ z => z.elim)
    obtain ⟨P675511, F675512, q675505, f675506, rfl, rfl, hsb675513, hfr675514, he675515, he675516, hm675517, hq675518, hdc, hds, x675507, x675508, x675509, ht675510⟩ := hp675502
    have hm675519 : q675301 ∈ P675511 := hsb675513 q675301 hm675474
    have hm675520 : q675302 ∈ P675511 := hsb675513 q675302 hm675475
    have hm675521 : q675303 ∈ P675511 := hsb675513 q675303 hm675476
    have hm675522 : q675304 ∈ P675511 := hsb675513 q675304 hm675477
    have hm675523 : q675460 ∈ P675511 := hsb675513 q675460 hm675472
    have hq675524 : q675505 ∉ P675299 := fun z => hq675518 (hsb675479 q675505 z)
    have hsb675525 : rSub P675299 P675511 := rSub_tr hsb675479 hsb675513
    have he675526 : F675512 q675301 = .inr (19, [.ref q675302, .int p675305, .int p675306, .int p675307, .int p675308, .int p675309, .int p675310, .ref qo675311, .int p675312, .int p675313, .int p675314, .ref q675303, .ref q675460, .int p675315]) := (hfr675514 q675301 hm675474 nm_n).trans he675494
    have he675527 : F675512 q675302 = .inl (I .byte, 8192, .inl f675316) := (hfr675514 q675302 hm675475 nm_n).trans he675490
    have he675528 : F675512 q675304 = .inl (I .int, n675320, .inl f675319) := (hfr675514 q675304 hm675477 nm_n).trans he675492
    have he675529 : F675512 q675460 = .inl (I .int, z675414.toInt.toNat, .inl f675461) := (hfr675514 q675460 hm675472 nm_n).trans he675493
    have hfr675530 : rFr [q675301] P675299 F675300 F675512 := rFr_call hsb675479 hfr675495 hfr675514 (fun b hb hn => ⟨(nm_c (fun e => hn (e ▸ List.mem_cons_self)) nm_n), nm_n⟩)
    have tp675531 : tP I P675511 F675512 p675307 qo675311 q675304 q675303 xt675321 := tP_new tp675496 hsb675513 (fun b hb => hfr675514 b hb (fun z => by cases z)) (Or.inl rfl) (Or.inl rfl)
    have tp675532 : tP I P675511 F675512 p675307 qo675311 q675505 q675303 xt675321 := tP_new tp675496 hsb675513 (fun b hb => hfr675514 b hb (fun z => by cases z)) (Or.inr hq675518) (Or.inl rfl)
    have tp675533 : tP I P675511 F675512 p675307 qo675311 q675304 q675505 xt675321 := tP_new tp675496 hsb675513 (fun b hb => hfr675514 b hb (fun z => by cases z)) (Or.inl rfl) (Or.inr hq675518)
    have tp675534 : tP I P675511 F675512 p675307 qo675311 q675460 q675303 xt675321 := tP_new tp675497 hsb675513 (fun b hb => hfr675514 b hb (fun z => by cases z)) (Or.inl rfl) (Or.inl rfl)
    have tp675535 : tP I P675511 F675512 p675307 qo675311 q675505 q675303 xt675321 := tP_new tp675497 hsb675513 (fun b hb => hfr675514 b hb (fun z => by cases z)) (Or.inr hq675518) (Or.inl rfl)
    have tp675536 : tP I P675511 F675512 p675307 qo675311 q675460 q675505 xt675321 := tP_new tp675497 hsb675513 (fun b hb => hfr675514 b hb (fun z => by cases z)) (Or.inl rfl) (Or.inr hq675518)
    have tp675537 : tP I P675511 F675512 p675307 qo675311 q675304 q675460 xt675321 := tP_new tp675498 hsb675513 (fun b hb => hfr675514 b hb (fun z => by cases z)) (Or.inl rfl) (Or.inl rfl)
    have tp675538 : tP I P675511 F675512 p675307 qo675311 q675505 q675460 xt675321 := tP_new tp675498 hsb675513 (fun b hb => hfr675514 b hb (fun z => by cases z)) (Or.inr hq675518) (Or.inl rfl)
    have tp675539 : tP I P675511 F675512 p675307 qo675311 q675304 q675505 xt675321 := tP_new tp675498 hsb675513 (fun b hb => hfr675514 b hb (fun z => by cases z)) (Or.inl rfl) (Or.inr hq675518)
    have hne675540 : q675460 ≠ q675505 := fun h => hq675518 (h ▸ hm675472)
    change G _ _ _ _ _ _ _ (.ref q675505 :: _) _ _ _
    refine G_widen (cs' := 2) (sl' := z675414.toInt.toNat + z675499.toInt.toNat) (by omega) (by omega) ?_
    refine Gp_put 11 hm675519 he675526 dr_cX14_goal_43 (gk_X14 D I) (Nat.le_of_ble_eq_true rfl) wr_9_49 rfl rfl rfl (Nat.le_of_ble_eq_true rfl) (fun F675541 e675542 n675543 => ?_)
    have he675544 : F675541 q675302 = .inl (I .byte, 8192, .inl f675316) := (n675543 q675302 (rn_ao he675527 he675526)).trans he675527
    have he675545 : F675541 q675304 = .inl (I .int, n675320, .inl f675319) := (n675543 q675304 (rn_ao he675528 he675526)).trans he675528
    have he675546 : F675541 q675460 = .inl (I .int, z675414.toInt.toNat, .inl f675461) := (n675543 q675460 (fun h => hq675478 (h ▸ hmq675301))).trans he675529
    have he675547 : F675541 q675303 = .inl (I .int, n675318, .inl f675317) := (n675543 q675303 (rn_ao he675515 he675526)).trans he675515
    have he675548 : F675541 q675505 = .inl (I .int, z675499.toInt.toNat, .inl f675506) := (n675543 q675505 (fun h => hq675524 (h ▸ hmq675301))).trans he675516
    have he675549 : F675541 q675301 = .inr (19, [.ref q675302, .int p675305, .int p675306, .int p675307, .int p675308, .int p675309, .int p675310, .ref qo675311, .int p675312, .int p675313, .int p675314, .ref q675505, .ref q675460, .int p675315]) := e675542
    have hfr675550 : rFr [q675301] P675299 F675300 F675541 := rFr_put' List.mem_cons_self hfr675530 n675543
    have tp675551 : tP I P675511 F675541 p675307 qo675311 q675304 q675303 xt675321 := tP_put tp675531 he675526 (by decide) n675543
    have tp675552 : tP I P675511 F675541 p675307 qo675311 q675505 q675303 xt675321 := tP_put tp675532 he675526 (by decide) n675543
    have tp675553 : tP I P675511 F675541 p675307 qo675311 q675304 q675505 xt675321 := tP_put tp675533 he675526 (by decide) n675543
    have tp675554 : tP I P675511 F675541 p675307 qo675311 q675460 q675303 xt675321 := tP_put tp675534 he675526 (by decide) n675543
    have tp675555 : tP I P675511 F675541 p675307 qo675311 q675505 q675303 xt675321 := tP_put tp675535 he675526 (by decide) n675543
    have tp675556 : tP I P675511 F675541 p675307 qo675311 q675460 q675505 xt675321 := tP_put tp675536 he675526 (by decide) n675543
    have tp675557 : tP I P675511 F675541 p675307 qo675311 q675304 q675460 xt675321 := tP_put tp675537 he675526 (by decide) n675543
    have tp675558 : tP I P675511 F675541 p675307 qo675311 q675505 q675460 xt675321 := tP_put tp675538 he675526 (by decide) n675543
    have tp675559 : tP I P675511 F675541 p675307 qo675311 q675304 q675505 xt675321 := tP_put tp675539 he675526 (by decide) n675543
    refine G_aload_n 0 dr_cX14_goal_46 rfl ?_
    refine Gp_get 11 hm675519 he675549 dr_cX14_goal_47 (gk_X14 D I) (Nat.le_of_ble_eq_true rfl) wr_9_49 rfl ?_
    refine G_aload_n 0 dr_cX14_goal_50 rfl ?_
    refine Gp_get 13 hm675519 he675549 dr_cX14_goal_51 (gk_X14 D I) (Nat.le_of_ble_eq_true rfl) wr_9_51 rfl ?_
    refine G_aload_n 0 dr_cX14_goal_54 rfl ?_
    refine Gp_get 4 hm675519 he675549 dr_cX14_goal_55 (gk_X14 D I) (Nat.le_of_ble_eq_true rfl) wr_9_40 rfl ?_
    refine Gp_iast 0 hm675517 he675548 dr_cX14_goal_58 rfl (gB_inr (by omega) (by omega)) (fun F675560 e675561 n675562 => ?_)
    obtain ⟨f675563, hf675563⟩ : ∃ z, z = upd f675506 p675315.toNatClampNeg p675308 := ⟨_, rfl⟩
    rw [← hf675563] at e675561
    have he675564 : F675560 q675301 = .inr (19, [.ref q675302, .int p675305, .int p675306, .int p675307, .int p675308, .int p675309, .int p675310, .ref qo675311, .int p675312, .int p675313, .int p675314, .ref q675505, .ref q675460, .int p675315]) := (n675562 q675301 (fun h => hq675524 (h ▸ hmq675301))).trans he675549
    have he675565 : F675560 q675302 = .inl (I .byte, 8192, .inl f675316) := (n675562 q675302 (fun h => hq675524 (h ▸ hmq675302))).trans he675544
    have he675566 : F675560 q675304 = .inl (I .int, n675320, .inl f675319) := (n675562 q675304 (fun h => hq675524 (h ▸ hmq675304))).trans he675545
    have he675567 : F675560 q675460 = .inl (I .int, z675414.toInt.toNat, .inl f675461) := (n675562 q675460 hne675540).trans he675546
    have he675568 : F675560 q675303 = .inl (I .int, n675318, .inl f675317) := (n675562 q675303 (fun h => hq675524 (h ▸ hmq675303))).trans he675547
    have he675569 : F675560 q675505 = .inl (I .int, z675499.toInt.toNat, .inl f675563) := e675561
    have hfr675570 : rFr [q675301] P675299 F675300 F675560 := rFr_newp hq675524 hfr675550 n675562
    have tp675572 : tP I P675511 F675560 p675307 qo675311 q675505 q675303 xt675321 := tP_pa tp675552 he675548 (Or.inl rfl) n675562
    have tp675573 : tP I P675511 F675560 p675307 qo675311 q675304 q675505 xt675321 := tP_pa tp675553 he675548 (Or.inr rfl) n675562
    have tp675575 : tP I P675511 F675560 p675307 qo675311 q675505 q675303 xt675321 := tP_pa tp675555 he675548 (Or.inl rfl) n675562
    have tp675576 : tP I P675511 F675560 p675307 qo675311 q675460 q675505 xt675321 := tP_pa tp675556 he675548 (Or.inr rfl) n675562
    have tp675578 : tP I P675511 F675560 p675307 qo675311 q675505 q675460 xt675321 := tP_pa tp675558 he675548 (Or.inl rfl) n675562
    have tp675579 : tP I P675511 F675560 p675307 qo675311 q675304 q675505 xt675321 := tP_pa tp675559 he675548 (Or.inr rfl) n675562
    refine G_aload_n 0 dr_cX14_goal_59 rfl ?_
    refine G_iconst 3 dr_cX14_goal_60 (by decide +kernel) ?_
    refine Gw_callV (As := [.int 3]) (gV_ok D I) (cp_674531_Reader_want l hl0 D I P675511 F675560 q675301 q675302 3 p675305 p675306 p675307 p675308 p675309 p675310 qo675311 p675312 p675313 p675314 q675505 q675460 p675315 f675316 xt675321 hm675519 hm675520 he675564 he675565 (gB_w (gBl (show Int32.toInt 3 = 3 by decide)) (by decide) (by decide)) bp675305 bp675306 bp675307 bp675308 bp675310 bp675312 bp675313 bp675314 bp675315 bf675316 (by omega) hm675523 hm675517 tp675576 x675324) dr_cX14_goal_61 ⟨wr_9_93, wr_1_32, wr_9_96, by decide, rfl, (Nat.le_of_ble_eq_true rfl), (Nat.le_of_ble_eq_true rfl)⟩ wr_9_95 wr_p_80 hm675519 he675564 rfl (show 2 + ((16 * (p675305.toInt - p675306.toInt)).toNat + 1) ≤ ((16 * (p675305.toInt - p675306.toInt)).toNat + 3) by first | omega | decide) (show z675414.toInt.toNat + z675499.toInt.toNat + ((160 * (p675305.toInt - p675306.toInt)).toNat + 7) ≤ ((160 * (p675305.toInt - p675306.toInt)).toNat + 4 * n675320 + 7) by first | omega | decide) (Nat.le_of_ble_eq_true rfl) (fun r675583 w675584 dc675580 ds675581 hp675582 => ?_) (fun _ qx675596 _ dc675594 ds675595 hx => by obtain ⟨P675592, F675593, rfl, rfl, hsb675585, hfr675586, hq675587, hqn675588, hwr675589, hdc675590, hds675591, ht675597⟩ := hx; exact GT_outA rfl (show 2 + dc675594 ≤ ((16 * (p675305.toInt - p675306.toInt)).toNat + 3) by omega) (show z675414.toInt.toNat + z675499.toInt.toNat + ds675595 ≤ ((160 * (p675305.toInt - p675306.toInt)).toNat + 4 * n675320 + 7) by omega) ⟨P675592, F675593, rfl, rfl, (rSub_tr hsb675525 hsb675585), (rFr_v (show rFr [q675301] P675299 F675300 F675593 from rFr_call hsb675525 hfr675570 hfr675586 (fun b hb hn => ⟨(nm_c (fun e => hn (e ▸ List.mem_cons_self)) nm_n), nm_n⟩)) (fun b hn => (nm_c (fun e => hn (e ▸ (List.mem_cons_of_mem _ List.mem_cons_self))) nm_n))), hq675587, (fun z => hqn675588 (hsb675525 _ z)), hwr675589, (by omega), (by omega), (fun R c1 c2 => c2 z675334 z675414 f675461 z675499 f675506 ez675334 r675413 ez675414 ht675465 ez675499 ht675510 ht675597)⟩)
    obtain ⟨P675612, F675613, o675598, o675599, o675600, o675601, q675602, xt675611, rfl, rfl, hsb675614, hfr675615, he675616, he675617, hdc, hds, bo675598, bo675599, bo675600, x675603, x675604, x675605, x675606, x675607, x675608, x675609, ht675610⟩ := hp675582
    have hm675618 : q675301 ∈ P675612 := hsb675614 q675301 hm675519
    have hm675619 : q675302 ∈ P675612 := hsb675614 q675302 hm675520
    have hm675620 : q675303 ∈ P675612 := hsb675614 q675303 hm675521
    have hm675621 : q675304 ∈ P675612 := hsb675614 q675304 hm675522
    have hm675622 : q675460 ∈ P675612 := hsb675614 q675460 hm675523
    have hm675623 : q675505 ∈ P675612 := hsb675614 q675505 hm675517
    have hsb675624 : rSub P675299 P675612 := rSub_tr hsb675525 hsb675614
    have he675625 : F675613 q675304 = .inl (I .int, n675320, .inl f675319) := (hfr675615 q675304 hm675522 (nm_c (rn_ao he675566 he675564) nm_n)).trans he675566
    have he675626 : F675613 q675460 = .inl (I .int, z675414.toInt.toNat, .inl f675461) := (hfr675615 q675460 hm675523 (nm_c (fun h => hq675478 (h ▸ hmq675301)) nm_n)).trans he675567
    have he675627 : F675613 q675303 = .inl (I .int, n675318, .inl f675317) := (hfr675615 q675303 hm675521 (nm_c (rn_ao he675568 he675564) nm_n)).trans he675568
    have he675628 : F675613 q675505 = .inl (I .int, z675499.toInt.toNat, .inl f675563) := (hfr675615 q675505 hm675517 (nm_c (fun h => hq675524 (h ▸ hmq675301)) nm_n)).trans he675569
    have hfr675629 : rFr [q675301] P675299 F675300 F675613 := rFr_call hsb675525 hfr675570 hfr675615 (fun b hb hn => ⟨(nm_c (fun e => hn (e ▸ List.mem_cons_self)) nm_n), (nm_c (fun e => hn (e ▸ List.mem_cons_self)) nm_n)⟩)
    have bo675601 := gB_any o675601
    rw [show Int32.toInt 3 = 3 from by decide] at x675609
    change G _ _ _ _ _ _ _ (.int p675309 :: _) _ _ _
    refine G_widen (cs' := 2 + ((16 * (o675598.toInt - p675306.toInt)).toNat)) (sl' := z675414.toInt.toNat + z675499.toInt.toNat + ((160 * (o675598.toInt - p675306.toInt)).toNat)) (by omega) (by omega) ?_
    refine G_istore_n (L' := [(1, .int p675309), (0, .ref q675301)]) dr_cX14_goal_64 (Nat.le_of_ble_eq_true rfl) rfl ?_
    refine G_aload_n 1 dr_cX14_goal_65 rfl ?_
    refine Gp_get 12 hm675618 he675616 dr_cX14_goal_66 (gk_X14 D I) (Nat.le_of_ble_eq_true rfl) wr_9_50 rfl ?_
    refine G_aload_n 1 dr_cX14_goal_69 rfl ?_
    refine Gp_get 13 hm675618 he675616 dr_cX14_goal_70 (gk_X14 D I) (Nat.le_of_ble_eq_true rfl) wr_9_51 rfl ?_
    refine G_iload_n 0 dr_cX14_goal_73 rfl ?_
    refine Gp_iast 0 hm675622 he675626 dr_cX14_goal_74 rfl (gB_inr (by omega) (by omega)) (fun F675630 e675631 n675632 => ?_)
    obtain ⟨f675633, hf675633⟩ : ∃ z, z = upd f675461 p675315.toNatClampNeg p675309 := ⟨_, rfl⟩
    rw [← hf675633] at e675631
    have he675634 : F675630 q675304 = .inl (I .int, n675320, .inl f675319) := (n675632 q675304 (fun h => hq675478 (h ▸ hmq675304))).trans he675625
    have he675635 : F675630 q675303 = .inl (I .int, n675318, .inl f675317) := (n675632 q675303 (fun h => hq675478 (h ▸ hmq675303))).trans he675627
    have he675636 : F675630 q675505 = .inl (I .int, z675499.toInt.toNat, .inl f675563) := (n675632 q675505 (Ne.symm hne675540)).trans he675628
    have he675637 : F675630 q675301 = .inr (19, [.ref q675302, .int p675305, .int o675598, .int o675599, .int o675600, .int o675601, .int p675307, .ref q675602, .int p675312, .int p675313, .int p675314, .ref q675505, .ref q675460, .int p675315]) := (n675632 q675301 (fun h => hq675478 (h ▸ hmq675301))).trans he675616
    have he675638 : F675630 q675302 = .inl (I .byte, 8192, .inl f675316) := (n675632 q675302 (fun h => hq675478 (h ▸ hmq675302))).trans he675617
    have he675639 : F675630 q675460 = .inl (I .int, z675414.toInt.toNat, .inl f675633) := e675631
    have hfr675640 : rFr [q675301] P675299 F675300 F675630 := rFr_newp hq675478 hfr675629 n675632
    have tp675641 : tP I P675612 F675630 o675599 q675602 q675460 q675505 xt675611 := tP_pa x675606 he675626 (Or.inl rfl) n675632
    refine G_aload_n 1 dr_cX14_goal_75 rfl ?_
    refine G_dup dr_cX14_goal_76 rfl ?_
    refine Gp_get 13 hm675618 he675637 dr_cX14_goal_77 (gk_X14 D I) (Nat.le_of_ble_eq_true rfl) wr_9_51 rfl ?_
    refine G_iconst 1 dr_cX14_goal_80 (by decide +kernel) ?_
    refine G_iadd dr_cX14_goal_81 (G_nam fun z675642 hz675642 => ?_)
    have ez675642 : z675642.toInt = p675315.toInt + 1 := by rw [gI_add hz675642 bp675315 (gBl (show Int32.toInt 1 = 1 by decide)) (by decide) (by decide), show Int32.toInt 1 = 1 from by decide]
    have bz675642 : gB z675642 1 1000001 := gB_add (gI_add hz675642 bp675315 (gBl (show Int32.toInt 1 = 1 by decide)) (by decide) (by decide)) bp675315 (gBl (show Int32.toInt 1 = 1 by decide)) (by decide) (by decide)
    refine Gp_put 13 hm675618 he675637 dr_cX14_goal_82 (gk_X14 D I) (Nat.le_of_ble_eq_true rfl) wr_9_51 rfl rfl rfl (Nat.le_of_ble_eq_true rfl) (fun F675643 e675644 n675645 => ?_)
    have he675646 : F675643 q675304 = .inl (I .int, n675320, .inl f675319) := (n675645 q675304 (rn_ao he675634 he675637)).trans he675634
    have he675647 : F675643 q675460 = .inl (I .int, z675414.toInt.toNat, .inl f675633) := (n675645 q675460 (fun h => hq675478 (h ▸ hmq675301))).trans he675639
    have he675648 : F675643 q675303 = .inl (I .int, n675318, .inl f675317) := (n675645 q675303 (rn_ao he675635 he675637)).trans he675635
    have he675649 : F675643 q675505 = .inl (I .int, z675499.toInt.toNat, .inl f675563) := (n675645 q675505 (fun h => hq675524 (h ▸ hmq675301))).trans he675636
    have he675650 : F675643 q675302 = .inl (I .byte, 8192, .inl f675316) := (n675645 q675302 (rn_ao he675638 he675637)).trans he675638
    have he675651 : F675643 q675301 = .inr (19, [.ref q675302, .int p675305, .int o675598, .int o675599, .int o675600, .int o675601, .int p675307, .ref q675602, .int p675312, .int p675313, .int p675314, .ref q675505, .ref q675460, .int z675642]) := e675644
    have hfr675652 : rFr [q675301] P675299 F675300 F675643 := rFr_put' List.mem_cons_self hfr675640 n675645
    have tp675653 : tP I P675612 F675643 o675599 q675602 q675460 q675505 xt675611 := tP_put tp675641 he675637 (by decide) n675645
    refine G_iload_n 0 dr_cX14_goal_85 rfl ?_
    exact G_iretA dr_cX14_goal_86 rfl (show 2 + ((16 * (o675598.toInt - p675306.toInt)).toNat) ≤ ((16 * (p675305.toInt - p675306.toInt)).toNat + 3) by omega) (show z675414.toInt.toNat + z675499.toInt.toNat + ((160 * (o675598.toInt - p675306.toInt)).toNat) ≤ ((160 * (p675305.toInt - p675306.toInt)).toNat + 4 * n675320 + 7) by omega) ⟨P675612, F675643, o675598, o675599, o675600, o675601, q675602, z675642, q675505, z675499.toInt.toNat, f675563, q675460, z675414.toInt.toNat, f675633, xt675611, rfl, rfl, hsb675624, (rFr_v hfr675652 (fun b hn => (nm_c (fun e => hn (e ▸ (List.mem_cons_of_mem _ (List.mem_cons_of_mem _ List.mem_cons_self)))) nm_n))), he675649, he675647, he675651, he675650, hm675623, (Or.inr hq675524), hm675622, (Or.inr hq675478), (by omega), (by omega), bo675598, bo675599, bo675600, ⟨by omega, by omega⟩, (by omega), x675604, (by omega), tp675653, x675607, x675608, (by omega), (by omega), hne675540, (glC_u hf675633 (glC_tr glC_rf x675463 (show p675315.toInt ≤ p675315.toInt from Int.le_refl _) (by omega)) (by omega)), (glL_u hf675633), (glP_u hf675563 (glP_b x675509 x675330) (by first | assumption | exact ⟨by omega, by omega⟩)), (by omega), (by omega), (by omega), (by omega), (by omega), (by omega), (fun R c1 c2 => c2 z675334 z675414 f675461 z675499 f675506 f675563 xt675611 o675598 o675599 o675600 o675601 f675633 z675642 ez675334 r675413 ez675414 ht675465 ez675499 ht675510 hf675563 bo675598 bo675599 bo675600 ht675610 hf675633 ez675642)⟩
/- tr_RReader_row: a.0...at, a.0...kind, a.0...place, a.0...value, a.0...before, a.1...op, a.1...t, a.1...a, a.1...b, a.1...regA, a.1...regB -/
def tr_RReader_row (a0_n : Int32) (a0_at : Int32) (a0_kind : Int32) (a0_value : Int32) (a1_t : Int32) (a1_a : Int32) (a1_b : Int32) (a1_regA : Int32) (a1_regB : Int32) (a0_t_v : Nat → Int32) (xt : gTx) (o1 : Int32) (o2 : Int32) (o3 : Int32) (o4 : Int32) (o5 : Int32) (o6 : Int32) (o7 : Int32) (o8 : Int32) (o9 : Int32) (o10 : Int32) (o11 : Int32) (o12 : gTx) : Prop := ∀ R : (Int32) → (Int32) → (Int32) → (Int32) → (Int32) → (Int32) → (Int32) → (Int32) → (Int32) → (Int32) → (Int32) → (gTx) → Prop,
  (∀ (x1 : Int32) (x2 : gTx) (x3 : Int32) (x4 : Int32) (x5 : Int32) (x6 : Int32) (x7 : gTx) (x8 : Int32) (x9 : Int32) (x10 : Int32) (x11 : Int32) (x12 : Int32) (x13 : gTx) (x14 : Int32) (x15 : Int32) (x16 : Int32) (x17 : Int32) (x18 : Int32) (x19 : Int32) (x20 : Int32) (x21 : Int32), gB x1 0 1 → tr_RReader_is sb_39 a0_kind xt x1 → x1.toInt = 0 → gB x3 0 8192 → gB x4 0 6 → gB x5 0 8192 → tr_RReader_want2 (2 : Int32) a0_n a0_at a0_kind a0_value a0_t_v x3 x4 x5 x6 x2 → gB x8 0 8192 → gB x9 0 6 → gB x10 0 8192 → tr_RReader_want sb_40 a0_n x3 x4 x6 a0_t_v x2 x8 x9 x10 x11 x7 → gB x12 0 1 → tr_RReader_is sb_41 x9 x7 x12 → x12.toInt = 0 → gB x14 0 8192 → gB x15 0 6 → gB x16 0 8192 → gB x20 0 1 → gB x21 0 1 → tr_RReader_operand (0 : Int32) a0_n x8 x9 x11 a1_a a1_b a1_regA a1_regB a0_t_v x14 x15 x16 x17 x18 x19 x20 x21 x13 → x15.toInt ≠ 5 → R x14 x15 x16 x17 x9 (0 : Int32) a0_value x18 x19 x20 x21 x13) →
  (∀ (x1 : Int32) (x2 : gTx) (x3 : Int32) (x4 : Int32) (x5 : Int32) (x6 : Int32) (x7 : gTx) (x8 : Int32) (x9 : Int32) (x10 : Int32) (x11 : Int32) (x12 : Int32) (x13 : gTx) (x14 : Int32) (x15 : Int32) (x16 : Int32) (x17 : Int32) (x18 : Int32) (x19 : Int32) (x20 : Int32) (x21 : Int32) (x22 : Int32) (x23 : gTx) (x24 : Int32) (x25 : Int32) (x26 : Int32) (x27 : Int32) (x28 : gTx) (x29 : Int32) (x30 : Int32) (x31 : Int32) (x32 : Int32) (x33 : Int32) (x34 : Int32) (x35 : Int32) (x36 : Int32), gB x1 0 1 → tr_RReader_is sb_39 a0_kind xt x1 → x1.toInt = 0 → gB x3 0 8192 → gB x4 0 6 → gB x5 0 8192 → tr_RReader_want2 (2 : Int32) a0_n a0_at a0_kind a0_value a0_t_v x3 x4 x5 x6 x2 → gB x8 0 8192 → gB x9 0 6 → gB x10 0 8192 → tr_RReader_want sb_40 a0_n x3 x4 x6 a0_t_v x2 x8 x9 x10 x11 x7 → gB x12 0 1 → tr_RReader_is sb_41 x9 x7 x12 → x12.toInt = 0 → gB x14 0 8192 → gB x15 0 6 → gB x16 0 8192 → gB x20 0 1 → gB x21 0 1 → tr_RReader_operand (0 : Int32) a0_n x8 x9 x11 a1_a a1_b a1_regA a1_regB a0_t_v x14 x15 x16 x17 x18 x19 x20 x21 x13 → x15.toInt = 5 → gB x22 0 14 → tr_RModel_operation x13.2 x13.1 x22 → x22.toInt ≠ 0 → gB x24 0 8192 → gB x25 0 6 → gB x26 0 8192 → tr_RReader_next a0_n x14 x15 x17 a0_t_v x24 x25 x26 x27 x23 → gB x29 0 8192 → gB x30 0 6 → gB x31 0 8192 → gB x35 0 1 → gB x36 0 1 → tr_RReader_operand (1 : Int32) a0_n x24 x25 x27 x18 x19 x20 x21 a0_t_v x29 x30 x31 x32 x33 x34 x35 x36 x28 → R x29 x30 x31 x32 x25 x22 a0_value x33 x34 x35 x36 x28) →
  (∀ (x1 : Int32) (x2 : gTx) (x3 : Int32) (x4 : Int32) (x5 : Int32) (x6 : Int32) (x7 : gTx) (x8 : Int32) (x9 : Int32) (x10 : Int32) (x11 : Int32) (x12 : Int32) (x13 : gTx) (x14 : Int32) (x15 : Int32) (x16 : Int32) (x17 : Int32) (x18 : Int32) (x19 : Int32) (x20 : Int32) (x21 : Int32) (x22 : Int32), gB x1 0 1 → tr_RReader_is sb_39 a0_kind xt x1 → x1.toInt = 0 → gB x3 0 8192 → gB x4 0 6 → gB x5 0 8192 → tr_RReader_want2 (2 : Int32) a0_n a0_at a0_kind a0_value a0_t_v x3 x4 x5 x6 x2 → gB x8 0 8192 → gB x9 0 6 → gB x10 0 8192 → tr_RReader_want sb_40 a0_n x3 x4 x6 a0_t_v x2 x8 x9 x10 x11 x7 → gB x12 0 1 → tr_RReader_is sb_41 x9 x7 x12 → x12.toInt = 0 → gB x14 0 8192 → gB x15 0 6 → gB x16 0 8192 → gB x20 0 1 → gB x21 0 1 → tr_RReader_operand (0 : Int32) a0_n x8 x9 x11 a1_a a1_b a1_regA a1_regB a0_t_v x14 x15 x16 x17 x18 x19 x20 x21 x13 → x15.toInt = 5 → gB x22 0 14 → tr_RModel_operation x13.2 x13.1 x22 → x22.toInt = 0 → R x14 x15 x16 x17 x9 x22 a0_value x18 x19 x20 x21 (x13.1, x13.2)) →
  (∀ (x1 : Int32) (x2 : gTx) (x3 : Int32) (x4 : Int32) (x5 : Int32) (x6 : Int32) (x7 : gTx) (x8 : Int32) (x9 : Int32) (x10 : Int32) (x11 : Int32) (x12 : Int32) (x13 : gTx) (x14 : Int32) (x15 : Int32) (x16 : Int32) (x17 : Int32), gB x1 0 1 → tr_RReader_is sb_39 a0_kind xt x1 → x1.toInt = 0 → gB x3 0 8192 → gB x4 0 6 → gB x5 0 8192 → tr_RReader_want2 (2 : Int32) a0_n a0_at a0_kind a0_value a0_t_v x3 x4 x5 x6 x2 → gB x8 0 8192 → gB x9 0 6 → gB x10 0 8192 → tr_RReader_want sb_40 a0_n x3 x4 x6 a0_t_v x2 x8 x9 x10 x11 x7 → gB x12 0 1 → tr_RReader_is sb_41 x9 x7 x12 → x12.toInt ≠ 0 → gB x14 0 8192 → gB x15 0 6 → gB x16 0 8192 → tr_RReader_next a0_n x8 x9 x11 a0_t_v x14 x15 x16 x17 x13 → R x14 x15 x16 x17 x9 (20 : Int32) a0_value a1_a a1_b a1_regA a1_regB x13) →
  (∀ (x1 : Int32) (x2 : gTx) (x3 : Int32) (x4 : Int32) (x5 : Int32) (x6 : Int32) (x7 : gTx) (x8 : Int32) (x9 : Int32) (x10 : Int32) (x11 : Int32) (x12 : Int32) (x13 : Int32) (x14 : Int32) (x15 : Int32), gB x1 0 1 → tr_RReader_is sb_39 a0_kind xt x1 → x1.toInt ≠ 0 → gB x3 0 8192 → gB x4 0 6 → gB x5 0 8192 → tr_RReader_next a0_n a0_at a0_kind a0_value a0_t_v x3 x4 x5 x6 x2 → gB x8 0 8192 → gB x9 0 6 → gB x10 0 8192 → gB x14 0 1 → gB x15 0 1 → tr_RReader_operand (0 : Int32) a0_n x3 x4 x6 a1_a a1_b a1_regA a1_regB a0_t_v x8 x9 x10 x11 x12 x13 x14 x15 x7 → R x8 x9 x10 x11 x4 (22 : Int32) a1_t x12 x13 x14 x15 x7) →
  R o1 o2 o3 o4 o5 o6 o7 o8 o9 o10 o11 o12
/- tx_RReader_row: throws -/
def tx_RReader_row (a0_n : Int32) (a0_at : Int32) (a0_kind : Int32) (a0_value : Int32) (a1_a : Int32) (a1_b : Int32) (a1_regA : Int32) (a1_regB : Int32) (a0_t_v : Nat → Int32) (xt : gTx) : Prop := ∀ R : Prop,
  (∀ (x1 : Int32), gB x1 0 1 → tr_RReader_is sb_39 a0_kind xt x1 → x1.toInt = 0 → tx_RReader_want2 (2 : Int32) a0_kind → R) →
  (∀ (x1 : Int32) (x2 : gTx) (x3 : Int32) (x4 : Int32) (x5 : Int32) (x6 : Int32), gB x1 0 1 → tr_RReader_is sb_39 a0_kind xt x1 → x1.toInt = 0 → gB x3 0 8192 → gB x4 0 6 → gB x5 0 8192 → tr_RReader_want2 (2 : Int32) a0_n a0_at a0_kind a0_value a0_t_v x3 x4 x5 x6 x2 → tx_RReader_want sb_40 x4 x2 → R) →
  (∀ (x1 : Int32) (x2 : gTx) (x3 : Int32) (x4 : Int32) (x5 : Int32) (x6 : Int32) (x7 : gTx) (x8 : Int32) (x9 : Int32) (x10 : Int32) (x11 : Int32) (x12 : Int32), gB x1 0 1 → tr_RReader_is sb_39 a0_kind xt x1 → x1.toInt = 0 → gB x3 0 8192 → gB x4 0 6 → gB x5 0 8192 → tr_RReader_want2 (2 : Int32) a0_n a0_at a0_kind a0_value a0_t_v x3 x4 x5 x6 x2 → gB x8 0 8192 → gB x9 0 6 → gB x10 0 8192 → tr_RReader_want sb_40 a0_n x3 x4 x6 a0_t_v x2 x8 x9 x10 x11 x7 → gB x12 0 1 → tr_RReader_is sb_41 x9 x7 x12 → x12.toInt = 0 → tx_RReader_operand x9 → R) →
  (∀ (x1 : Int32) (x2 : gTx) (x3 : Int32) (x4 : Int32) (x5 : Int32) (x6 : Int32) (x7 : gTx) (x8 : Int32) (x9 : Int32) (x10 : Int32) (x11 : Int32) (x12 : Int32) (x13 : gTx) (x14 : Int32) (x15 : Int32) (x16 : Int32) (x17 : Int32) (x18 : Int32) (x19 : Int32) (x20 : Int32) (x21 : Int32) (x22 : Int32) (x23 : gTx) (x24 : Int32) (x25 : Int32) (x26 : Int32) (x27 : Int32), gB x1 0 1 → tr_RReader_is sb_39 a0_kind xt x1 → x1.toInt = 0 → gB x3 0 8192 → gB x4 0 6 → gB x5 0 8192 → tr_RReader_want2 (2 : Int32) a0_n a0_at a0_kind a0_value a0_t_v x3 x4 x5 x6 x2 → gB x8 0 8192 → gB x9 0 6 → gB x10 0 8192 → tr_RReader_want sb_40 a0_n x3 x4 x6 a0_t_v x2 x8 x9 x10 x11 x7 → gB x12 0 1 → tr_RReader_is sb_41 x9 x7 x12 → x12.toInt = 0 → gB x14 0 8192 → gB x15 0 6 → gB x16 0 8192 → gB x20 0 1 → gB x21 0 1 → tr_RReader_operand (0 : Int32) a0_n x8 x9 x11 a1_a a1_b a1_regA a1_regB a0_t_v x14 x15 x16 x17 x18 x19 x20 x21 x13 → x15.toInt = 5 → gB x22 0 14 → tr_RModel_operation x13.2 x13.1 x22 → x22.toInt ≠ 0 → gB x24 0 8192 → gB x25 0 6 → gB x26 0 8192 → tr_RReader_next a0_n x14 x15 x17 a0_t_v x24 x25 x26 x27 x23 → tx_RReader_operand x25 → R) →
  (∀ (x1 : Int32) (x2 : gTx) (x3 : Int32) (x4 : Int32) (x5 : Int32) (x6 : Int32), gB x1 0 1 → tr_RReader_is sb_39 a0_kind xt x1 → x1.toInt ≠ 0 → gB x3 0 8192 → gB x4 0 6 → gB x5 0 8192 → tr_RReader_next a0_n a0_at a0_kind a0_value a0_t_v x3 x4 x5 x6 x2 → tx_RReader_operand x4 → R) →
  R
abbrev ky_675706_Reader_row : gKey := (cX14_row, 2, "SpillForgeModel$Reader", none, [], "row", fun _ _ => True)
def pp_675706_Reader_row (D : va_G) (I : FieldType → ClassId) (P675671 : List Nat) (F675672 : Nat → va_E) (q675673 : Nat) (q675674 : Nat) (q675675 : Nat) (p675676 : Int32) (p675677 : Int32) (p675678 : Int32) (p675679 : Int32) (p675680 : Int32) (p675681 : Int32) (qo675682 : Nat) (p675683 : Int32) (p675684 : Int32) (p675685 : Int32) (qo675686 : Nat) (qo675687 : Nat) (p675688 : Int32) (p675689 : Int32) (p675690 : Int32) (p675691 : Int32) (p675692 : Int32) (p675693 : Int32) (p675694 : Int32) (p675695 : Int32) (f675696 : Nat → Int32) (xt675697 : gTx) : Option Value → va_W → Nat → Nat → Prop := fun r w dc ds => ∃ (P676187 : List Nat) (F676188 : Nat → va_E) (o676175 : Int32) (o676176 : Int32) (o676177 : Int32) (o676178 : Int32) (o676179 : Int32) (q676180 : Nat) (o676181 : Int32) (o676182 : Int32) (o676183 : Int32) (o676184 : Int32) (o676185 : Int32) (o676186 : Int32) (xt676189 : gTx), r = none ∧ w = va_pl P676187 F676188 ∧ rSub P675671 P676187 ∧ rFr [q675674, q675673] P675671 F675672 F676188 ∧ F676188 q675674 = .inr (20, [.int o676181, .int o676182, .int o676183, .int o676184, .int p675693, .int o676185, .int o676186]) ∧ F676188 q675673 = .inr (19, [.ref q675675, .int p675676, .int o676175, .int o676176, .int o676177, .int o676178, .int o676179, .ref q676180, .int p675683, .int p675684, .int p675685, .ref qo675686, .ref qo675687, .int p675688]) ∧ F676188 q675675 = .inl (I .byte, 8192, .inl f675696) ∧ dc ≤ (16 * (o676175.toInt - p675677.toInt)).toNat + 8 ∧ ds ≤ (160 * (o676175.toInt - p675677.toInt)).toNat + 64 ∧ gB o676175 0 8192 ∧ gB o676176 0 6 ∧ gB o676177 0 8192 ∧ gB o676179 0 6 ∧ gB o676181 0 22 ∧ gB o676182 0 1999 ∧ gB o676185 0 1 ∧ gB o676186 0 1 ∧ p675677.toInt ≤ o676175.toInt ∧ prP o676176 p675677 o676175 ∧ o676175.toInt ≤ p675676.toInt ∧ tP I P676187 F676188 o676176 q676180 qo675687 qo675686 xt676189 ∧ vP o676176 o676178 ∧ rwP o676185 o676183 ∧ rwP o676186 o676184 ∧ opP o676181 ∧ opQ o676181 ∧ nzK p675678 ∧ rwQ p675677 o676175 o676176 ∧ tr_RReader_row p675676 p675677 p675678 p675680 p675690 p675691 p675692 p675694 p675695 f675696 xt675697 o676175 o676176 o676177 o676178 o676179 o676181 o676182 o676183 o676184 o676185 o676186 xt676189
def xp_675706_Reader_row (D : va_G) (I : FieldType → ClassId) (P675671 : List Nat) (F675672 : Nat → va_E) (q675673 : Nat) (q675674 : Nat) (q675675 : Nat) (p675676 : Int32) (p675677 : Int32) (p675678 : Int32) (p675679 : Int32) (p675680 : Int32) (p675681 : Int32) (qo675682 : Nat) (p675683 : Int32) (p675684 : Int32) (p675685 : Int32) (qo675686 : Nat) (qo675687 : Nat) (p675688 : Int32) (p675689 : Int32) (p675690 : Int32) (p675691 : Int32) (p675692 : Int32) (p675693 : Int32) (p675694 : Int32) (p675695 : Int32) (f675696 : Nat → Int32) (xt675697 : gTx) : String → Nat → va_W → Nat → Nat → Prop := fun E q w dc ds => ∃ (P676191 : List Nat) (F676190 : Nat → va_E), E = "SpillForgeModel$Wrong" ∧ w = va_pl P676191 F676190 ∧ rSub P675671 P676191 ∧ rFr [q675674, q675673] P675671 F675672 F676190 ∧ q ∈ P676191 ∧ q ∉ P675671 ∧ wrF F676190 q ∧ dc ≤ (16 * (p675676.toInt - p675677.toInt)).toNat + 9 ∧ ds ≤ (160 * (p675676.toInt - p675677.toInt)).toNat + 71 ∧ rkR (F676190 q675674) ∧ tx_RReader_row p675676 p675677 p675678 p675680 p675691 p675692 p675694 p675695 f675696 xt675697
set_option maxRecDepth 100000 in
set_option maxHeartbeats 4000000 in
theorem cp_675706_Reader_row (l : Launch) (hl0 : l.stackTraces = false) (D : va_G) (I : FieldType → ClassId) (P675671 : List Nat) (F675672 : Nat → va_E) (q675673 : Nat) (q675674 : Nat) (q675675 : Nat) (p675676 : Int32) (p675677 : Int32) (p675678 : Int32) (p675679 : Int32) (p675680 : Int32) (p675681 : Int32) (qo675682 : Nat) (p675683 : Int32) (p675684 : Int32) (p675685 : Int32) (qo675686 : Nat) (qo675687 : Nat) (p675688 : Int32) (p675689 : Int32) (p675690 : Int32) (p675691 : Int32) (p675692 : Int32) (p675693 : Int32) (p675694 : Int32) (p675695 : Int32) (f675696 : Nat → Int32) (xt675697 : gTx) (hmq675673 : q675673 ∈ P675671) (hmq675674 : q675674 ∈ P675671) (hmq675675 : q675675 ∈ P675671) (heq675673 : F675672 q675673 = .inr (19, [.ref q675675, .int p675676, .int p675677, .int p675678, .int p675679, .int p675680, .int p675681, .ref qo675682, .int p675683, .int p675684, .int p675685, .ref qo675686, .ref qo675687, .int p675688])) (heq675674 : F675672 q675674 = .inr (20, [.int p675689, .int p675690, .int p675691, .int p675692, .int p675693, .int p675694, .int p675695])) (heq675675 : F675672 q675675 = .inl (I .byte, 8192, .inl f675696)) (bp675676 : gB p675676 0 8192) (bp675677 : gB p675677 0 8192) (bp675678 : gB p675678 0 6) (bp675679 : gB p675679 0 8192) (bp675681 : gB p675681 0 6) (bp675683 : gB p675683 (-1) 8192) (bp675684 : gB p675684 0 4) (bp675685 : gB p675685 0 1000000) (bp675688 : gB p675688 0 1000000) (bp675689 : gB p675689 0 32) (bp675690 : gB p675690 0 1999) (bp675693 : gB p675693 0 1999) (bp675694 : gB p675694 0 1) (bp675695 : gB p675695 0 1) (bf675696 : gF f675696 (-128) 127) (x675698 : p675677.toInt ≤ p675676.toInt) (x675699 : qo675687 ∈ P675671) (x675700 : qo675686 ∈ P675671) (x675701 : tP I P675671 F675672 p675678 qo675682 qo675687 qo675686 xt675697) (x675702 : vP p675678 p675680) (x675703 : rwP p675694 p675691) (x675704 : rwP p675695 p675692) (x675705 : opP p675689) : CtA (gV D I) l yX14_row cX14_row 2 none 9 200 ((16 * (p675676.toInt - p675677.toInt)).toNat + 9) ((160 * (p675676.toInt - p675677.toInt)).toNat + 71) [.ref q675673, .ref q675674] (va_pl P675671 F675672) (pp_675706_Reader_row D I P675671 F675672 q675673 q675674 q675675 p675676 p675677 p675678 p675679 p675680 p675681 qo675682 p675683 p675684 p675685 qo675686 qo675687 p675688 p675689 p675690 p675691 p675692 p675693 p675694 p675695 f675696 xt675697) (xp_675706_Reader_row D I P675671 F675672 q675673 q675674 q675675 p675676 p675677 p675678 p675679 p675680 p675681 qo675682 p675683 p675684 p675685 qo675686 qo675687 p675688 p675689 p675690 p675691 p675692 p675693 p675694 p675695 f675696 xt675697) := by
  refine CtA_of hl0 (by decide) (Nat.le_of_ble_eq_true rfl) ?_
  have bp675680 := gB_any p675680
  have bp675691 := gB_any p675691
  have bp675692 := gB_any p675692
  refine G_aload_n 0 dr_cX14_row_0 rfl ?_
  refine G_ldcK (a := D.2 1000 39) dr_cX14_row_1 (fun _ _ _ h => gx_vk 39 rfl rfl h) ?_
  have hl39_675706 : (sb_39.length : Int) = 4 := rfl
  refine Gw_callV (As := [.ref (D.2 1000 39)]) (gV_ok D I) (cp_674354_Reader_is l hl0 D I P675671 F675672 q675673 q675675 (D.2 1000 39) (D.2 1001 39) sb_39 p675676 p675677 p675678 p675679 p675680 p675681 qo675682 p675683 p675684 p675685 qo675686 qo675687 p675688 f675696 xt675697 hmq675673 hmq675675 heq675673 heq675675 (gx_sc 39 rfl rfl) (by omega) (by decide +kernel) bp675676 bp675677 bp675678 bp675679 bp675681 bp675683 bp675684 bp675685 bp675688 bf675696 x675701) dr_cX14_row_3 ⟨wr_9_141, wr_1_32, wr_9_144, by decide, rfl, (Nat.le_of_ble_eq_true rfl), (Nat.le_of_ble_eq_true rfl)⟩ wr_9_143 wr_p_84 hmq675673 heq675673 rfl (show 0 + 0 ≤ ((16 * (p675676.toInt - p675677.toInt)).toNat + 9) by first | omega | decide) (show 0 + 0 ≤ ((160 * (p675676.toInt - p675677.toInt)).toNat + 71) by first | omega | decide) (Nat.le_of_ble_eq_true rfl) (fun r675711 w675712 dc675708 ds675709 hp675710 => ?_) (fun _ _ _ _ _ z => z.elim)
  obtain ⟨o675713, rfl, rfl, hdc, hds, bo675713, x675714, ht675715⟩ := hp675710
  change G _ _ _ _ _ _ _ (.int o675713 :: _) _ _ _
  refine G_widen (cs' := 0) (sl' := 0) (by omega) (by omega) ?_
  refine G_if_eq 26 dr_cX14_row_6 (by decide +kernel) (fun hc675716 => ?_) (fun hc675716 => ?_)
  · have r675717 : o675713.toInt = 0 := gj_eq hc675716 (show Int32.toInt 0 = 0 by decide)
    have bo675713' : gB o675713 0 0 := ⟨by omega, by omega⟩
    refine G_aload_n 1 dr_cX14_row_26 rfl ?_
    refine G_aload_n 0 dr_cX14_row_27 rfl ?_
    refine G_iconst 2 dr_cX14_row_28 (by decide +kernel) ?_
    refine Gw_callV (As := [.int 2]) (gV_ok D I) (cp_674531_Reader_want l hl0 D I P675671 F675672 q675673 q675675 2 p675676 p675677 p675678 p675679 p675680 p675681 qo675682 p675683 p675684 p675685 qo675686 qo675687 p675688 f675696 xt675697 hmq675673 hmq675675 heq675673 heq675675 (gB_w (gBl (show Int32.toInt 2 = 2 by decide)) (by decide) (by decide)) bp675676 bp675677 bp675678 bp675679 bp675681 bp675683 bp675684 bp675685 bp675688 bf675696 (by omega) x675699 x675700 x675701 x675702) dr_cX14_row_29 ⟨wr_9_93, wr_1_32, wr_9_96, by decide, rfl, (Nat.le_of_ble_eq_true rfl), (Nat.le_of_ble_eq_true rfl)⟩ wr_9_95 wr_p_80 hmq675673 heq675673 rfl (show 0 + ((16 * (p675676.toInt - p675677.toInt)).toNat + 1) ≤ ((16 * (p675676.toInt - p675677.toInt)).toNat + 9) by first | omega | decide) (show 0 + ((160 * (p675676.toInt - p675677.toInt)).toNat + 7) ≤ ((160 * (p675676.toInt - p675677.toInt)).toNat + 71) by first | omega | decide) (Nat.le_of_ble_eq_true rfl) (fun r675721 w675722 dc675718 ds675719 hp675720 => ?_) (fun _ qx675734 _ dc675732 ds675733 hx => by obtain ⟨P675730, F675731, rfl, rfl, hsb675723, hfr675724, hq675725, hqn675726, hwr675727, hdc675728, hds675729, ht675735⟩ := hx; exact GT_outA rfl (show 0 + dc675732 ≤ ((16 * (p675676.toInt - p675677.toInt)).toNat + 9) by omega) (show 0 + ds675733 ≤ ((160 * (p675676.toInt - p675677.toInt)).toNat + 71) by omega) ⟨P675730, F675731, rfl, rfl, (rSub_tr (rSub_rf (P := P675671)) hsb675723), (rFr_v (show rFr [] P675671 F675672 F675731 from rFr_call (rSub_rf (P := P675671)) (rFr_rf (W := []) (P := P675671) (F := F675672)) hfr675724 (fun b hb hn => ⟨nm_n, nm_n⟩)) (fun b hn => nm_n)), hq675725, (fun z => hqn675726 ((rSub_rf (P := P675671)) _ z)), hwr675727, (by omega), (by omega), ⟨p675689, p675690, p675691, p675692, p675693, p675694, p675695, ((hfr675724 q675674 hmq675674 nm_n).trans heq675674), bp675689, bp675690, bp675693, bp675694, bp675695, x675705, x675703, x675704⟩, (fun R c1 c2 c3 c4 c5 => c1 o675713 bo675713 ht675715 r675717 ht675735)⟩)
    obtain ⟨P675750, F675751, o675736, o675737, o675738, o675739, q675740, xt675749, rfl, rfl, hsb675752, hfr675753, he675754, he675755, hdc, hds, bo675736, bo675737, bo675738, x675741, x675742, x675743, x675744, x675745, x675746, x675747, ht675748⟩ := hp675720
    have hm675756 : q675673 ∈ P675750 := hsb675752 q675673 hmq675673
    have hm675757 : q675674 ∈ P675750 := hsb675752 q675674 hmq675674
    have hm675758 : q675675 ∈ P675750 := hsb675752 q675675 hmq675675
    have hsb675759 : rSub P675671 P675750 := rSub_tr (rSub_rf (P := P675671)) hsb675752
    have he675760 : F675751 q675674 = .inr (20, [.int p675689, .int p675690, .int p675691, .int p675692, .int p675693, .int p675694, .int p675695]) := (hfr675753 q675674 hmq675674 (nm_c (rn_oo heq675674 heq675673 (by decide)) nm_n)).trans heq675674
    have hfr675761 : rFr [q675673] P675671 F675672 F675751 := rFr_call (rSub_rf (P := P675671)) (rFr_rf (W := []) (P := P675671) (F := F675672)) hfr675753 (fun b hb hn => ⟨nm_n, (nm_c (fun e => hn (e ▸ List.mem_cons_self)) nm_n)⟩)
    have bo675739 := gB_any o675739
    rw [show Int32.toInt 2 = 2 from by decide] at x675747
    change G _ _ _ _ _ _ _ (.int p675680 :: _) _ _ _
    refine G_widen (cs' := (16 * (o675736.toInt - p675677.toInt)).toNat) (sl' := (160 * (o675736.toInt - p675677.toInt)).toNat) (by omega) (by omega) ?_
    have bv675762 : gB p675680 0 99 := vP_g2 x675746
    have x675763 : p675677.toInt ≤ o675736.toInt := by omega
    have x675764 : p675677.toInt + 0 ≤ p675677.toInt := by omega
    have x675765 : p675677.toInt + 0 ≤ o675736.toInt := by omega
    have x675766 : prQ o675737 (p675677.toInt + 1) o675736 := prP_q x675742 x675764 (by omega)
    refine G_widen (cs' := (16 * (o675736.toInt - p675677.toInt) + 0 : Int).toNat) (sl' := (160 * (o675736.toInt - p675677.toInt) + 0 : Int).toNat) (by omega) (by omega) ?_
    refine Gp_put 1 hm675757 he675760 dr_cX14_row_32 (gk_X15 D I) (Nat.le_of_ble_eq_true rfl) wr_9_183 rfl rfl rfl (Nat.le_of_ble_eq_true rfl) (fun F675767 e675768 n675769 => ?_)
    have he675770 : F675767 q675673 = .inr (19, [.ref q675675, .int p675676, .int o675736, .int o675737, .int o675738, .int o675739, .int p675678, .ref q675740, .int p675683, .int p675684, .int p675685, .ref qo675686, .ref qo675687, .int p675688]) := (n675769 q675673 (rn_oo he675754 he675760 (by decide))).trans he675754
    have he675771 : F675767 q675675 = .inl (I .byte, 8192, .inl f675696) := (n675769 q675675 (rn_ao he675755 he675760)).trans he675755
    have he675772 : F675767 q675674 = .inr (20, [.int p675689, .int p675680, .int p675691, .int p675692, .int p675693, .int p675694, .int p675695]) := e675768
    have hfr675773 : rFr [q675674, q675673] P675671 F675672 F675767 := rFr_put hfr675761 n675769
    have tp675774 : tP I P675750 F675767 o675737 q675740 qo675687 qo675686 xt675749 := tP_put x675744 he675760 (by decide) n675769
    clear hsb675752 hfr675753 he675754 he675755 he675760 hfr675761; try clear r675711; try clear w675712; try clear dc675708; try clear ds675709; try clear hp675710; try clear r675721; try clear w675722; try clear dc675718; try clear ds675719; try clear hp675720
    refine G_aload_n 0 dr_cX14_row_35 rfl ?_
    refine G_ldcK (a := D.2 1000 40) dr_cX14_row_36 (fun _ _ _ h => gx_vk 40 rfl rfl h) ?_
    have hl40_675774 : (sb_40.length : Int) = 1 := rfl
    refine Gw_callV (As := [.ref (D.2 1000 40)]) (gV_ok D I) (cp_674436_Reader_want l hl0 D I P675750 F675767 q675673 q675675 (D.2 1000 40) (D.2 1001 40) sb_40 p675676 o675736 o675737 o675738 o675739 p675678 q675740 p675683 p675684 p675685 qo675686 qo675687 p675688 f675696 xt675749 hm675756 hm675758 he675770 he675771 (gx_sc 40 rfl rfl) (by omega) (by decide +kernel) bp675676 bo675736 bo675737 bo675738 bp675678 bp675683 bp675684 bp675685 bp675688 bf675696 (by omega) (hsb675759 _ x675699) (hsb675759 _ x675700) tp675774) dr_cX14_row_38 ⟨wr_9_137, wr_1_32, wr_9_140, by decide, rfl, (Nat.le_of_ble_eq_true rfl), (Nat.le_of_ble_eq_true rfl)⟩ wr_9_139 wr_p_83 hm675756 he675770 rfl (show (16 * (o675736.toInt - p675677.toInt) + 0 : Int).toNat + ((16 * (p675676.toInt - o675736.toInt)).toNat + 1) ≤ ((16 * (p675676.toInt - p675677.toInt)).toNat + 9) by first | omega | decide) (show (160 * (o675736.toInt - p675677.toInt) + 0 : Int).toNat + ((160 * (p675676.toInt - o675736.toInt)).toNat + 7) ≤ ((160 * (p675676.toInt - p675677.toInt)).toNat + 71) by first | omega | decide) (Nat.le_of_ble_eq_true rfl) (fun r675779 w675780 dc675776 ds675777 hp675778 => ?_) (fun _ qx675792 _ dc675790 ds675791 hx => by obtain ⟨P675788, F675789, rfl, rfl, hsb675781, hfr675782, hq675783, hqn675784, hwr675785, hdc675786, hds675787, ht675793⟩ := hx; exact GT_outA rfl (show (16 * (o675736.toInt - p675677.toInt) + 0 : Int).toNat + dc675790 ≤ ((16 * (p675676.toInt - p675677.toInt)).toNat + 9) by omega) (show (160 * (o675736.toInt - p675677.toInt) + 0 : Int).toNat + ds675791 ≤ ((160 * (p675676.toInt - p675677.toInt)).toNat + 71) by omega) ⟨P675788, F675789, rfl, rfl, (rSub_tr hsb675759 hsb675781), (show rFr [q675674, q675673] P675671 F675672 F675789 from rFr_call hsb675759 hfr675773 hfr675782 (fun b hb hn => ⟨(nm_c (fun e => hn (e ▸ List.mem_cons_self)) (nm_c (fun e => hn (e ▸ (List.mem_cons_of_mem _ List.mem_cons_self))) nm_n)), nm_n⟩)), hq675783, (fun z => hqn675784 (hsb675759 _ z)), hwr675785, (by omega), (by omega), ⟨p675689, p675680, p675691, p675692, p675693, p675694, p675695, ((hfr675782 q675674 hm675757 nm_n).trans he675772), bp675689, (gB_w bv675762 (by decide) (by decide)), bp675693, bp675694, bp675695, x675705, x675703, x675704⟩, (fun R c1 c2 c3 c4 c5 => c2 o675713 xt675749 o675736 o675737 o675738 o675739 bo675713 ht675715 r675717 bo675736 bo675737 bo675738 ht675748 ht675793)⟩)
    obtain ⟨P675807, F675808, o675794, o675795, o675796, o675797, q675798, xt675806, rfl, rfl, hsb675809, hfr675810, he675811, he675812, hdc, hds, bo675794, bo675795, bo675796, x675799, x675800, x675801, x675802, x675803, x675804, ht675805⟩ := hp675778
    have hm675813 : q675673 ∈ P675807 := hsb675809 q675673 hm675756
    have hm675814 : q675674 ∈ P675807 := hsb675809 q675674 hm675757
    have hm675815 : q675675 ∈ P675807 := hsb675809 q675675 hm675758
    have hsb675816 : rSub P675671 P675807 := rSub_tr hsb675759 hsb675809
    have he675817 : F675808 q675674 = .inr (20, [.int p675689, .int p675680, .int p675691, .int p675692, .int p675693, .int p675694, .int p675695]) := (hfr675810 q675674 hm675757 (nm_c (rn_oo he675772 he675770 (by decide)) nm_n)).trans he675772
    have hfr675818 : rFr [q675674, q675673] P675671 F675672 F675808 := rFr_call hsb675759 hfr675773 hfr675810 (fun b hb hn => ⟨(nm_c (fun e => hn (e ▸ List.mem_cons_self)) (nm_c (fun e => hn (e ▸ (List.mem_cons_of_mem _ List.mem_cons_self))) nm_n)), (nm_c (fun e => hn (e ▸ (List.mem_cons_of_mem _ List.mem_cons_self))) nm_n)⟩)
    have bo675797 := gB_any o675797
    change G _ _ _ _ _ _ _ _ _ _ _
    refine G_widen (cs' := (16 * (o675736.toInt - p675677.toInt) + 0 : Int).toNat + ((16 * (o675794.toInt - o675736.toInt)).toNat)) (sl' := (160 * (o675736.toInt - p675677.toInt) + 0 : Int).toNat + ((160 * (o675794.toInt - o675736.toInt)).toNat)) (by omega) (by omega) ?_
    have x675819 : p675677.toInt ≤ o675794.toInt := by omega
    have x675820 : p675677.toInt + 1 ≤ o675736.toInt := by have q := (prQ_le x675766 x675804); omega
    have x675821 : p675677.toInt + 1 ≤ o675794.toInt := by omega
    have x675822 : prQ o675795 (p675677.toInt + 2) o675794 := prP_q x675800 x675820 (by omega)
    refine G_widen (cs' := (16 * (o675794.toInt - p675677.toInt) + 0 : Int).toNat) (sl' := (160 * (o675794.toInt - p675677.toInt) + 0 : Int).toNat) (by omega) (by omega) ?_
    clear hm675756 hm675757 hm675758 hsb675759 he675770 he675771 he675772 hfr675773 hsb675809 hfr675810; try clear r675779; try clear w675780; try clear dc675776; try clear ds675777; try clear hp675778
    refine G_aload_n 0 dr_cX14_row_41 rfl ?_
    refine G_ldcK (a := D.2 1000 41) dr_cX14_row_42 (fun _ _ _ h => gx_vk 41 rfl rfl h) ?_
    have hl41_675822 : (sb_41.length : Int) = 2 := rfl
    refine Gw_callV (As := [.ref (D.2 1000 41)]) (gV_ok D I) (cp_674354_Reader_is l hl0 D I P675807 F675808 q675673 q675675 (D.2 1000 41) (D.2 1001 41) sb_41 p675676 o675794 o675795 o675796 o675797 o675737 q675798 p675683 p675684 p675685 qo675686 qo675687 p675688 f675696 xt675806 hm675813 hm675815 he675811 he675812 (gx_sc 41 rfl rfl) (by omega) (by decide +kernel) bp675676 bo675794 bo675795 bo675796 bo675737 bp675683 bp675684 bp675685 bp675688 bf675696 x675802) dr_cX14_row_44 ⟨wr_9_141, wr_1_32, wr_9_144, by decide, rfl, (Nat.le_of_ble_eq_true rfl), (Nat.le_of_ble_eq_true rfl)⟩ wr_9_143 wr_p_84 hm675813 he675811 rfl (show (16 * (o675794.toInt - p675677.toInt) + 0 : Int).toNat + 0 ≤ ((16 * (p675676.toInt - p675677.toInt)).toNat + 9) by first | omega | decide) (show (160 * (o675794.toInt - p675677.toInt) + 0 : Int).toNat + 0 ≤ ((160 * (p675676.toInt - p675677.toInt)).toNat + 71) by first | omega | decide) (Nat.le_of_ble_eq_true rfl) (fun r675827 w675828 dc675824 ds675825 hp675826 => ?_) (fun _ _ _ _ _ z => z.elim)
    obtain ⟨o675829, rfl, rfl, hdc, hds, bo675829, x675830, ht675831⟩ := hp675826
    change G _ _ _ _ _ _ _ (.int o675829 :: _) _ _ _
    refine G_widen (cs' := (16 * (o675794.toInt - p675677.toInt) + 0 : Int).toNat + 0) (sl' := (160 * (o675794.toInt - p675677.toInt) + 0 : Int).toNat + 0) (by omega) (by omega) ?_
    refine G_if_eq 61 dr_cX14_row_47 (by decide +kernel) (fun hc675832 => ?_) (fun hc675832 => ?_)
    · have r675833 : o675829.toInt = 0 := gj_eq hc675832 (show Int32.toInt 0 = 0 by decide)
      have bo675829' : gB o675829 0 0 := ⟨by omega, by omega⟩
      refine G_aload_n 0 dr_cX14_row_61 rfl ?_
      refine G_aload_n 1 dr_cX14_row_62 rfl ?_
      refine G_iconst 0 dr_cX14_row_63 (by decide +kernel) ?_
      refine Gw_callV (As := [.ref q675674, .int 0]) (gV_ok D I) (cp_674702_Reader_operand l hl0 D I P675807 F675808 q675673 q675674 q675675 0 p675676 o675794 o675795 o675796 o675797 o675737 q675798 p675683 p675684 p675685 qo675686 qo675687 p675688 p675689 p675680 p675691 p675692 p675693 p675694 p675695 f675696 xt675806 hm675813 hm675814 hm675815 he675811 he675817 he675812 (gB_w (gBl (show Int32.toInt 0 = 0 by decide)) (by decide) (by decide)) bp675676 bo675794 bo675795 bo675796 bo675737 bp675683 bp675684 bp675685 bp675688 bp675689 (gB_w bv675762 (by decide) (by decide)) bp675693 bp675694 bp675695 bf675696 (by omega) (hsb675816 _ x675699) (hsb675816 _ x675700) x675802 x675803 x675703 x675704 x675705) dr_cX14_row_64 ⟨wr_10_89, wr_1_32, wr_10_92, by decide, rfl, (Nat.le_of_ble_eq_true rfl), (Nat.le_of_ble_eq_true rfl)⟩ wr_10_91 wr_p_89 hm675813 he675811 rfl (show (16 * (o675794.toInt - p675677.toInt) + 0 : Int).toNat + 0 + ((16 * (p675676.toInt - o675794.toInt)).toNat + 1) ≤ ((16 * (p675676.toInt - p675677.toInt)).toNat + 9) by first | omega | decide) (show (160 * (o675794.toInt - p675677.toInt) + 0 : Int).toNat + 0 + ((160 * (p675676.toInt - o675794.toInt)).toNat + 7) ≤ ((160 * (p675676.toInt - p675677.toInt)).toNat + 71) by first | omega | decide) (Nat.le_of_ble_eq_true rfl) (fun r675837 w675838 dc675834 ds675835 hp675836 => ?_) (fun _ qx675850 _ dc675848 ds675849 hx => by obtain ⟨P675846, F675847, rfl, rfl, hsb675839, hfr675840, hq675841, hqn675842, hwr675843, hdc675844, hds675845, x675851, ht675852⟩ := hx; exact GT_outA rfl (show (16 * (o675794.toInt - p675677.toInt) + 0 : Int).toNat + 0 + dc675848 ≤ ((16 * (p675676.toInt - p675677.toInt)).toNat + 9) by omega) (show (160 * (o675794.toInt - p675677.toInt) + 0 : Int).toNat + 0 + ds675849 ≤ ((160 * (p675676.toInt - p675677.toInt)).toNat + 71) by omega) ⟨P675846, F675847, rfl, rfl, (rSub_tr hsb675816 hsb675839), (show rFr [q675674, q675673] P675671 F675672 F675847 from rFr_call hsb675816 hfr675818 hfr675840 (fun b hb hn => ⟨(nm_c (fun e => hn (e ▸ List.mem_cons_self)) (nm_c (fun e => hn (e ▸ (List.mem_cons_of_mem _ List.mem_cons_self))) nm_n)), nm_n⟩)), hq675841, (fun z => hqn675842 (hsb675816 _ z)), hwr675843, (by omega), (by omega), ⟨p675689, p675680, p675691, p675692, p675693, p675694, p675695, ((hfr675840 q675674 hm675814 nm_n).trans he675817), bp675689, (gB_w bv675762 (by decide) (by decide)), bp675693, bp675694, bp675695, x675705, x675703, x675704⟩, (fun R c1 c2 c3 c4 c5 => c3 o675713 xt675749 o675736 o675737 o675738 o675739 xt675806 o675794 o675795 o675796 o675797 o675829 bo675713 ht675715 r675717 bo675736 bo675737 bo675738 ht675748 bo675794 bo675795 bo675796 ht675805 bo675829 ht675831 r675833 ht675852)⟩)
      obtain ⟨P675872, F675873, o675853, o675854, o675855, o675856, q675857, o675858, o675859, o675860, o675861, xt675871, rfl, rfl, hsb675874, hfr675875, he675876, he675877, he675878, hdc, hds, bo675853, bo675854, bo675855, bo675860, bo675861, x675862, x675863, x675864, x675865, x675866, x675867, x675868, x675869, ht675870⟩ := hp675836
      have hm675879 : q675673 ∈ P675872 := hsb675874 q675673 hm675813
      have hm675880 : q675674 ∈ P675872 := hsb675874 q675674 hm675814
      have hm675881 : q675675 ∈ P675872 := hsb675874 q675675 hm675815
      have hsb675882 : rSub P675671 P675872 := rSub_tr hsb675816 hsb675874
      have hfr675883 : rFr [q675674, q675673] P675671 F675672 F675873 := rFr_call hsb675816 hfr675818 hfr675875 (fun b hb hn => ⟨(nm_c (fun e => hn (e ▸ List.mem_cons_self)) (nm_c (fun e => hn (e ▸ (List.mem_cons_of_mem _ List.mem_cons_self))) nm_n)), (nm_c (fun e => hn (e ▸ List.mem_cons_self)) (nm_c (fun e => hn (e ▸ (List.mem_cons_of_mem _ List.mem_cons_self))) nm_n))⟩)
      have bo675856 := gB_any o675856
      have bo675858 := gB_any o675858
      have bo675859 := gB_any o675859
      change G _ _ _ _ _ _ _ _ _ _ _
      refine G_widen (cs' := (16 * (o675794.toInt - p675677.toInt) + 0 : Int).toNat + 0 + ((16 * (o675853.toInt - o675794.toInt)).toNat)) (sl' := (160 * (o675794.toInt - p675677.toInt) + 0 : Int).toNat + 0 + ((160 * (o675853.toInt - o675794.toInt)).toNat)) (by omega) (by omega) ?_
      have x675884 : p675677.toInt ≤ o675853.toInt := by omega
      have x675885 : p675677.toInt + 2 ≤ o675794.toInt := by have q := (prQ_le x675822 x675869); omega
      have x675886 : p675677.toInt + 2 ≤ o675853.toInt := by omega
      have x675887 : prQ o675854 (p675677.toInt + 3) o675853 := prP_q x675863 x675885 (by omega)
      refine G_widen (cs' := (16 * (o675853.toInt - p675677.toInt) + 0 : Int).toNat) (sl' := (160 * (o675853.toInt - p675677.toInt) + 0 : Int).toNat) (by omega) (by omega) ?_
      clear he675811 he675812 hm675813 hm675814 hm675815 hsb675816 he675817 hfr675818 hsb675874 hfr675875; try clear r675827; try clear w675828; try clear dc675824; try clear ds675825; try clear hp675826; try clear r675837; try clear w675838; try clear dc675834; try clear ds675835; try clear hp675836
      refine G_aload_n 1 dr_cX14_row_67 rfl ?_
      refine G_aload_n 0 dr_cX14_row_68 rfl ?_
      refine Gp_get 3 hm675879 he675877 dr_cX14_row_69 (gk_X14 D I) (Nat.le_of_ble_eq_true rfl) wr_9_39 rfl ?_
      refine G_iconst 5 dr_cX14_row_72 (by decide +kernel) ?_
      refine G_icmp_ne 86 dr_cX14_row_73 (by decide +kernel) (fun hc675888 => ?_) (fun hc675888 => ?_)
      · have r675889 : o675854.toInt ≠ 5 := gj_neq hc675888 (show Int32.toInt 5 = 5 by decide)
        refine G_widen (cs' := (16 * (o675853.toInt - p675677.toInt) + 8 : Int).toNat) (sl' := (160 * (o675853.toInt - p675677.toInt) + 64 : Int).toNat) (by omega) (by omega) ?_
        refine G_iconst 0 dr_cX14_row_86 (by decide +kernel) ?_
        refine Gp_put 0 hm675880 he675876 dr_cX14_row_87 (gk_X15 D I) (Nat.le_of_ble_eq_true rfl) wr_9_179 rfl rfl rfl (Nat.le_of_ble_eq_true rfl) (fun F675890 e675891 n675892 => ?_)
        have he675893 : F675890 q675673 = .inr (19, [.ref q675675, .int p675676, .int o675853, .int o675854, .int o675855, .int o675856, .int o675795, .ref q675857, .int p675683, .int p675684, .int p675685, .ref qo675686, .ref qo675687, .int p675688]) := (n675892 q675673 (rn_oo he675877 he675876 (by decide))).trans he675877
        have he675894 : F675890 q675675 = .inl (I .byte, 8192, .inl f675696) := (n675892 q675675 (rn_ao he675878 he675876)).trans he675878
        have he675895 : F675890 q675674 = .inr (20, [.int 0, .int p675680, .int o675858, .int o675859, .int p675693, .int o675860, .int o675861]) := e675891
        have hfr675896 : rFr [q675674, q675673] P675671 F675672 F675890 := rFr_put' List.mem_cons_self hfr675883 n675892
        have tp675897 : tP I P675872 F675890 o675854 q675857 qo675687 qo675686 xt675871 := tP_put x675865 he675876 (by decide) n675892
        clear he675876 he675877 he675878 hfr675883
        refine G_aload_n 1 dr_cX14_row_90 rfl ?_
        refine Gp_get 0 hm675880 he675895 dr_cX14_row_91 (gk_X15 D I) (Nat.le_of_ble_eq_true rfl) wr_9_179 rfl ?_
        refine G_if_ne 98 dr_cX14_row_94 (by decide +kernel) (fun hc => absurd hc (by decide)) (fun _ => ?_)
        exact G_vretA dr_cX14_row_97 rfl (show (16 * (o675853.toInt - p675677.toInt) + 8 : Int).toNat ≤ ((16 * (p675676.toInt - p675677.toInt)).toNat + 9) by omega) (show (160 * (o675853.toInt - p675677.toInt) + 64 : Int).toNat ≤ ((160 * (p675676.toInt - p675677.toInt)).toNat + 71) by omega) ⟨P675872, F675890, o675853, o675854, o675855, o675856, o675795, q675857, 0, p675680, o675858, o675859, o675860, o675861, xt675871, rfl, rfl, hsb675882, hfr675896, he675895, he675893, he675894, (by omega), (by omega), bo675853, bo675854, bo675855, bo675795, (gB_w (gBl (show Int32.toInt 0 = 0 by decide)) (by decide) (by decide)), (gB_w bv675762 (by decide) (by decide)), bo675860, bo675861, (by have qa0 : Int32.toInt 0 = 0 := (by decide); omega), (prP_le x675863 (by omega)), (by have qa0 : Int32.toInt 0 = 0 := (by decide); omega), tp675897, x675866, x675867, x675868, (Or.inl (by decide)), (Or.inl (by decide)), (show nzK p675678 by unfold nzK; omega), ⟨by omega, Or.inr (by omega)⟩, (fun R c1 c2 c3 c4 c5 => c1 o675713 xt675749 o675736 o675737 o675738 o675739 xt675806 o675794 o675795 o675796 o675797 o675829 xt675871 o675853 o675854 o675855 o675856 o675858 o675859 o675860 o675861 bo675713 ht675715 r675717 bo675736 bo675737 bo675738 ht675748 bo675794 bo675795 bo675796 ht675805 bo675829 ht675831 r675833 bo675853 bo675854 bo675855 bo675860 bo675861 ht675870 r675889)⟩
      · have r675898 : o675854.toInt = 5 := gj_eq hc675888 (show Int32.toInt 5 = 5 by decide)
        have bo675854' : gB o675854 5 5 := ⟨by omega, by omega⟩
        refine G_aload_n 0 dr_cX14_row_76 rfl ?_
        refine Gp_get 7 hm675879 he675877 dr_cX14_row_77 (gk_X14 D I) (Nat.le_of_ble_eq_true rfl) wr_9_43 rfl ?_
        obtain ⟨q675899, p675900, p675901, hm675902, he675903, hm675904, he675905, bq675899, x675906, bp675901, hg675907, hg675908⟩ := x675865.2 (by omega)
        have bp675900 := gB_any p675900
        refine Gw_callSN (As := [.ref q675857]) (gV_ok D I) (cp_674942_SpillForgeModel_operation l hl0 D I P675872 F675873 q675857 q675899 p675900 p675901 xt675871.2 xt675871.1 hm675902 hm675904 he675903 he675905 bp675901 bq675899 (by have qa0 : Int32.toInt 0 = 0 := (by decide); omega) (by have qa0 : Int32.toInt 0 = 0 := (by decide); omega)) dr_cX14_row_80 ⟨(fun _ _ _ h => gn_w 81 rfl h), wr_1_14, wr_10_97, by decide, rfl, (Nat.le_of_ble_eq_true rfl), (Nat.le_of_ble_eq_true rfl)⟩ wr_10_96 (show (16 * (o675853.toInt - p675677.toInt) + 0 : Int).toNat + 8 ≤ ((16 * (p675676.toInt - p675677.toInt)).toNat + 9) by first | omega | decide) (show (160 * (o675853.toInt - p675677.toInt) + 0 : Int).toNat + 64 ≤ ((160 * (p675676.toInt - p675677.toInt)).toNat + 71) by first | omega | decide) (Nat.le_of_ble_eq_true rfl) (fun r675912 w675913 dc675909 ds675910 hp675911 => ?_)
        obtain ⟨P675918, F675919, o675914, rfl, rfl, hsb675920, hfr675921, he675922, he675923, hdc, hds, bo675914, x675915, x675916, ht675917⟩ := hp675911
        have hm675924 : q675673 ∈ P675918 := hsb675920 q675673 hm675879
        have hm675925 : q675674 ∈ P675918 := hsb675920 q675674 hm675880
        have hm675926 : q675675 ∈ P675918 := hsb675920 q675675 hm675881
        have hm675927 : q675857 ∈ P675918 := hsb675920 q675857 hm675902
        have hm675928 : q675899 ∈ P675918 := hsb675920 q675899 hm675904
        have hsb675929 : rSub P675671 P675918 := rSub_tr hsb675882 hsb675920
        have he675930 : F675919 q675674 = .inr (20, [.int p675689, .int p675680, .int o675858, .int o675859, .int p675693, .int o675860, .int o675861]) := (hfr675921 q675674 hm675880 nm_n).trans he675876
        have he675931 : F675919 q675673 = .inr (19, [.ref q675675, .int p675676, .int o675853, .int o675854, .int o675855, .int o675856, .int o675795, .ref q675857, .int p675683, .int p675684, .int p675685, .ref qo675686, .ref qo675687, .int p675688]) := (hfr675921 q675673 hm675879 nm_n).trans he675877
        have he675932 : F675919 q675675 = .inl (I .byte, 8192, .inl f675696) := (hfr675921 q675675 hm675881 nm_n).trans he675878
        have hfr675933 : rFr [q675674, q675673] P675671 F675672 F675919 := rFr_call hsb675882 hfr675883 hfr675921 (fun b hb hn => ⟨(nm_c (fun e => hn (e ▸ List.mem_cons_self)) (nm_c (fun e => hn (e ▸ (List.mem_cons_of_mem _ List.mem_cons_self))) nm_n)), nm_n⟩)
        have tp675934 : tP I P675918 F675919 o675854 q675857 qo675687 qo675686 xt675871 := tP_new x675865 hsb675920 (fun b hb => hfr675921 b hb (fun z => by cases z)) (Or.inl rfl) (Or.inl rfl)
        change G _ _ _ _ _ _ _ (.int o675914 :: _) _ _ _
        refine G_widen (cs' := (16 * (o675853.toInt - p675677.toInt) + 0 : Int).toNat + 8) (sl' := (160 * (o675853.toInt - p675677.toInt) + 0 : Int).toNat + 64) (by omega) (by omega) ?_
        refine G_widen (cs' := (16 * (o675853.toInt - p675677.toInt) + 8 : Int).toNat) (sl' := (160 * (o675853.toInt - p675677.toInt) + 64 : Int).toNat) (by omega) (by omega) ?_
        refine G_goto 87 dr_cX14_row_83 (by decide +kernel) ?_
        refine Gp_put 0 hm675925 he675930 dr_cX14_row_87 (gk_X15 D I) (Nat.le_of_ble_eq_true rfl) wr_9_179 rfl rfl rfl (Nat.le_of_ble_eq_true rfl) (fun F675935 e675936 n675937 => ?_)
        have he675938 : F675935 q675673 = .inr (19, [.ref q675675, .int p675676, .int o675853, .int o675854, .int o675855, .int o675856, .int o675795, .ref q675857, .int p675683, .int p675684, .int p675685, .ref qo675686, .ref qo675687, .int p675688]) := (n675937 q675673 (rn_oo he675931 he675930 (by decide))).trans he675931
        have he675939 : F675935 q675675 = .inl (I .byte, 8192, .inl f675696) := (n675937 q675675 (rn_ao he675932 he675930)).trans he675932
        have he675940 : F675935 q675857 = .inr (0, [.ref q675899, .int 0, .int p675900, .int p675901]) := (n675937 q675857 (rn_oo he675922 he675930 (by decide))).trans he675922
        have he675941 : F675935 q675899 = .inl (I .byte, xt675871.1, .inl xt675871.2) := (n675937 q675899 (rn_ao he675923 he675930)).trans he675923
        have he675942 : F675935 q675674 = .inr (20, [.int o675914, .int p675680, .int o675858, .int o675859, .int p675693, .int o675860, .int o675861]) := e675936
        have hfr675943 : rFr [q675674, q675673] P675671 F675672 F675935 := rFr_put' List.mem_cons_self hfr675933 n675937
        have tp675944 : tP I P675918 F675935 o675854 q675857 qo675687 qo675686 xt675871 := tP_put tp675934 he675930 (by decide) n675937
        clear he675876 he675877 he675878 hm675879 hm675880 hm675881 hsb675882 hfr675883 hm675902 he675903 hm675904 he675905 hg675907 hg675908 hsb675920 hfr675921 he675922 he675923 he675930 he675931 he675932 hfr675933; try clear r675912; try clear w675913; try clear dc675909; try clear ds675910; try clear hp675911
        refine G_aload_n 1 dr_cX14_row_90 rfl ?_
        refine Gp_get 0 hm675925 he675942 dr_cX14_row_91 (gk_X15 D I) (Nat.le_of_ble_eq_true rfl) wr_9_179 rfl ?_
        refine G_if_ne 98 dr_cX14_row_94 (by decide +kernel) (fun hc675945 => ?_) (fun hc675945 => ?_)
        · have r675946 : o675914.toInt ≠ 0 := gj_neq hc675945 (show Int32.toInt 0 = 0 by decide)
          have bo675914' : gB o675914 1 14 := ⟨by omega, by omega⟩
          refine G_aload_n 0 dr_cX14_row_98 rfl ?_
          refine Gw_callV (As := []) (gV_ok D I) (cp_672367_Reader_next l hl0 D I P675918 F675935 q675673 q675675 p675676 o675853 o675854 o675855 o675856 o675795 q675857 p675683 p675684 p675685 qo675686 qo675687 p675688 f675696 hm675924 hm675926 he675938 he675939 bp675676 bo675853 (gB_w bo675854' (by decide) (by decide)) bo675855 bo675795 bp675683 bp675684 bp675685 bp675688 bf675696 (by have qa0 : Int32.toInt 0 = 0 := (by decide); omega) (hsb675929 _ x675699) (hsb675929 _ x675700)) dr_cX14_row_99 ⟨wr_7_215, wr_1_32, wr_7_218, by decide, rfl, (Nat.le_of_ble_eq_true rfl), (Nat.le_of_ble_eq_true rfl)⟩ wr_7_217 wr_p_75 hm675924 he675938 rfl (show (16 * (o675853.toInt - p675677.toInt) + 8 : Int).toNat + ((16 * (p675676.toInt - o675853.toInt)).toNat) ≤ ((16 * (p675676.toInt - p675677.toInt)).toNat + 9) by first | omega | decide) (show (160 * (o675853.toInt - p675677.toInt) + 64 : Int).toNat + ((160 * (p675676.toInt - o675853.toInt)).toNat) ≤ ((160 * (p675676.toInt - p675677.toInt)).toNat + 71) by first | omega | decide) (Nat.le_of_ble_eq_true rfl) (fun r675950 w675951 dc675947 ds675948 hp675949 => ?_) (fun _ _ _ _ _ z => z.elim)
          obtain ⟨P675964, F675965, o675952, o675953, o675954, o675955, q675956, xt675963, rfl, rfl, hsb675966, hfr675967, he675968, he675969, hdc, hds, bo675952, bo675953, bo675954, x675957, x675958, x675959, x675960, x675961, ht675962⟩ := hp675949
          have hm675970 : q675673 ∈ P675964 := hsb675966 q675673 hm675924
          have hm675971 : q675674 ∈ P675964 := hsb675966 q675674 hm675925
          have hm675972 : q675675 ∈ P675964 := hsb675966 q675675 hm675926
          have hm675973 : q675857 ∈ P675964 := hsb675966 q675857 hm675927
          have hm675974 : q675899 ∈ P675964 := hsb675966 q675899 hm675928
          have hsb675975 : rSub P675671 P675964 := rSub_tr hsb675929 hsb675966
          have he675976 : F675965 q675674 = .inr (20, [.int o675914, .int p675680, .int o675858, .int o675859, .int p675693, .int o675860, .int o675861]) := (hfr675967 q675674 hm675925 (nm_c (rn_oo he675942 he675938 (by decide)) nm_n)).trans he675942
          have he675977 : F675965 q675857 = .inr (0, [.ref q675899, .int 0, .int p675900, .int p675901]) := (hfr675967 q675857 hm675927 (nm_c (rn_oo he675940 he675938 (by decide)) nm_n)).trans he675940
          have he675978 : F675965 q675899 = .inl (I .byte, xt675871.1, .inl xt675871.2) := (hfr675967 q675899 hm675928 (nm_c (rn_ao he675941 he675938) nm_n)).trans he675941
          have hfr675979 : rFr [q675674, q675673] P675671 F675672 F675965 := rFr_call hsb675929 hfr675943 hfr675967 (fun b hb hn => ⟨(nm_c (fun e => hn (e ▸ List.mem_cons_self)) (nm_c (fun e => hn (e ▸ (List.mem_cons_of_mem _ List.mem_cons_self))) nm_n)), (nm_c (fun e => hn (e ▸ (List.mem_cons_of_mem _ List.mem_cons_self))) nm_n)⟩)
          have bo675955 := gB_any o675955
          change G _ _ _ _ _ _ _ _ _ _ _
          refine G_widen (cs' := (16 * (o675853.toInt - p675677.toInt) + 8 : Int).toNat + ((16 * (o675952.toInt - o675853.toInt)).toNat)) (sl' := (160 * (o675853.toInt - p675677.toInt) + 64 : Int).toNat + ((160 * (o675952.toInt - o675853.toInt)).toNat)) (by omega) (by omega) ?_
          have x675980 : p675677.toInt ≤ o675952.toInt := by omega
          have x675981 : p675677.toInt + 2 ≤ o675853.toInt := by have q := (prQ_le x675887 (show nzK o675854 by unfold nzK; omega)); omega
          have x675982 : p675677.toInt + 2 ≤ o675952.toInt := by omega
          have x675983 : prQ o675953 (p675677.toInt + 3) o675952 := prP_q x675958 x675981 (by omega)
          refine G_widen (cs' := (16 * (o675952.toInt - p675677.toInt) + 8 : Int).toNat) (sl' := (160 * (o675952.toInt - p675677.toInt) + 64 : Int).toNat) (by omega) (by omega) ?_
          clear bp675901 bp675900 hm675924 hm675925 hm675926 hm675927 hm675928 hsb675929 he675938 he675939 he675940 he675941 he675942 hfr675943 hsb675966 hfr675967 hm675973 hm675974 he675977 he675978; try clear x675741; try clear x675742; try clear x675743; try clear x675763; try clear x675765; try clear x675766; try clear x675799; try clear x675800; try clear x675820; try clear r675950; try clear w675951; try clear dc675947; try clear ds675948; try clear hp675949
          refine G_aload_n 0 dr_cX14_row_102 rfl ?_
          refine G_aload_n 1 dr_cX14_row_103 rfl ?_
          refine G_iconst 1 dr_cX14_row_104 (by decide +kernel) ?_
          refine Gw_callV (As := [.ref q675674, .int 1]) (gV_ok D I) (cp_674702_Reader_operand l hl0 D I P675964 F675965 q675673 q675674 q675675 1 p675676 o675952 o675953 o675954 o675955 o675854 q675956 p675683 p675684 p675685 qo675686 qo675687 p675688 o675914 p675680 o675858 o675859 p675693 o675860 o675861 f675696 xt675963 hm675970 hm675971 hm675972 he675968 he675976 he675969 (gB_w (gBl (show Int32.toInt 1 = 1 by decide)) (by decide) (by decide)) bp675676 bo675952 bo675953 bo675954 (gB_w bo675854' (by decide) (by decide)) bp675683 bp675684 bp675685 bp675688 (gB_w bo675914' (by decide) (by decide)) (gB_w bv675762 (by decide) (by decide)) bp675693 bo675860 bo675861 bf675696 (by omega) (hsb675975 _ x675699) (hsb675975 _ x675700) x675960 x675961 x675867 x675868 (opP_of (gB_w bo675914' (by decide) (by decide)))) dr_cX14_row_105 ⟨wr_10_89, wr_1_32, wr_10_92, by decide, rfl, (Nat.le_of_ble_eq_true rfl), (Nat.le_of_ble_eq_true rfl)⟩ wr_10_91 wr_p_89 hm675970 he675968 rfl (show (16 * (o675952.toInt - p675677.toInt) + 8 : Int).toNat + ((16 * (p675676.toInt - o675952.toInt)).toNat + 1) ≤ ((16 * (p675676.toInt - p675677.toInt)).toNat + 9) by first | omega | decide) (show (160 * (o675952.toInt - p675677.toInt) + 64 : Int).toNat + ((160 * (p675676.toInt - o675952.toInt)).toNat + 7) ≤ ((160 * (p675676.toInt - p675677.toInt)).toNat + 71) by first | omega | decide) (Nat.le_of_ble_eq_true rfl) (fun r675987 w675988 dc675984 ds675985 hp675986 => ?_) (fun _ qx676000 _ dc675998 ds675999 hx => by obtain ⟨P675996, F675997, rfl, rfl, hsb675989, hfr675990, hq675991, hqn675992, hwr675993, hdc675994, hds675995, x676001, ht676002⟩ := hx; exact GT_outA rfl (show (16 * (o675952.toInt - p675677.toInt) + 8 : Int).toNat + dc675998 ≤ ((16 * (p675676.toInt - p675677.toInt)).toNat + 9) by omega) (show (160 * (o675952.toInt - p675677.toInt) + 64 : Int).toNat + ds675999 ≤ ((160 * (p675676.toInt - p675677.toInt)).toNat + 71) by omega) ⟨P675996, F675997, rfl, rfl, (rSub_tr hsb675975 hsb675989), (show rFr [q675674, q675673] P675671 F675672 F675997 from rFr_call hsb675975 hfr675979 hfr675990 (fun b hb hn => ⟨(nm_c (fun e => hn (e ▸ List.mem_cons_self)) (nm_c (fun e => hn (e ▸ (List.mem_cons_of_mem _ List.mem_cons_self))) nm_n)), nm_n⟩)), hq675991, (fun z => hqn675992 (hsb675975 _ z)), hwr675993, (by omega), (by omega), ⟨o675914, p675680, o675858, o675859, p675693, o675860, o675861, ((hfr675990 q675674 hm675971 nm_n).trans he675976), (gB_w bo675914' (by decide) (by decide)), (gB_w bv675762 (by decide) (by decide)), bp675693, bo675860, bo675861, (opP_of (gB_w bo675914' (by decide) (by decide))), x675867, x675868⟩, (fun R c1 c2 c3 c4 c5 => c4 o675713 xt675749 o675736 o675737 o675738 o675739 xt675806 o675794 o675795 o675796 o675797 o675829 xt675871 o675853 o675854 o675855 o675856 o675858 o675859 o675860 o675861 o675914 xt675963 o675952 o675953 o675954 o675955 bo675713 ht675715 r675717 bo675736 bo675737 bo675738 ht675748 bo675794 bo675795 bo675796 ht675805 bo675829 ht675831 r675833 bo675853 bo675854 bo675855 bo675860 bo675861 ht675870 r675898 bo675914 ht675917 r675946 bo675952 bo675953 bo675954 ht675962 ht676002)⟩)
          obtain ⟨P676022, F676023, o676003, o676004, o676005, o676006, q676007, o676008, o676009, o676010, o676011, xt676021, rfl, rfl, hsb676024, hfr676025, he676026, he676027, he676028, hdc, hds, bo676003, bo676004, bo676005, bo676010, bo676011, x676012, x676013, x676014, x676015, x676016, x676017, x676018, x676019, ht676020⟩ := hp675986
          have hm676029 : q675673 ∈ P676022 := hsb676024 q675673 hm675970
          have hm676030 : q675674 ∈ P676022 := hsb676024 q675674 hm675971
          have hm676031 : q675675 ∈ P676022 := hsb676024 q675675 hm675972
          have hsb676032 : rSub P675671 P676022 := rSub_tr hsb675975 hsb676024
          have hfr676033 : rFr [q675674, q675673] P675671 F675672 F676023 := rFr_call hsb675975 hfr675979 hfr676025 (fun b hb hn => ⟨(nm_c (fun e => hn (e ▸ List.mem_cons_self)) (nm_c (fun e => hn (e ▸ (List.mem_cons_of_mem _ List.mem_cons_self))) nm_n)), (nm_c (fun e => hn (e ▸ List.mem_cons_self)) (nm_c (fun e => hn (e ▸ (List.mem_cons_of_mem _ List.mem_cons_self))) nm_n))⟩)
          have bo676006 := gB_any o676006
          have bo676008 := gB_any o676008
          have bo676009 := gB_any o676009
          change G _ _ _ _ _ _ _ _ _ _ _
          refine G_widen (cs' := (16 * (o675952.toInt - p675677.toInt) + 8 : Int).toNat + ((16 * (o676003.toInt - o675952.toInt)).toNat)) (sl' := (160 * (o675952.toInt - p675677.toInt) + 64 : Int).toNat + ((160 * (o676003.toInt - o675952.toInt)).toNat)) (by omega) (by omega) ?_
          have x676034 : p675677.toInt + 2 ≤ o675952.toInt := by have q := (prQ_le x675983 x676019); omega
          have x676035 : p675677.toInt + 2 ≤ o676003.toInt := by omega
          have x676036 : prQ o676004 (p675677.toInt + 3) o676003 := prP_q x676013 x676034 (by omega)
          exact G_vretA dr_cX14_row_108 rfl (show (16 * (o675952.toInt - p675677.toInt) + 8 : Int).toNat + ((16 * (o676003.toInt - o675952.toInt)).toNat) ≤ ((16 * (p675676.toInt - p675677.toInt)).toNat + 9) by omega) (show (160 * (o675952.toInt - p675677.toInt) + 64 : Int).toNat + ((160 * (o676003.toInt - o675952.toInt)).toNat) ≤ ((160 * (p675676.toInt - p675677.toInt)).toNat + 71) by omega) ⟨P676022, F676023, o676003, o676004, o676005, o676006, o675953, q676007, o675914, p675680, o676008, o676009, o676010, o676011, xt676021, rfl, rfl, hsb676032, hfr676033, he676026, he676027, he676028, (by omega), (by omega), bo676003, bo676004, bo676005, bo675953, (gB_w bo675914' (by decide) (by decide)), (gB_w bv675762 (by decide) (by decide)), bo676010, bo676011, (by omega), (prP_le x676013 (by omega)), (by omega), x676015, x676016, x676017, x676018, (opP_of (gB_w bo675914' (by decide) (by decide))), (Or.inl (by omega)), (show nzK p675678 by unfold nzK; omega), ⟨by omega, Or.inr (by omega)⟩, (fun R c1 c2 c3 c4 c5 => c2 o675713 xt675749 o675736 o675737 o675738 o675739 xt675806 o675794 o675795 o675796 o675797 o675829 xt675871 o675853 o675854 o675855 o675856 o675858 o675859 o675860 o675861 o675914 xt675963 o675952 o675953 o675954 o675955 xt676021 o676003 o676004 o676005 o676006 o676008 o676009 o676010 o676011 bo675713 ht675715 r675717 bo675736 bo675737 bo675738 ht675748 bo675794 bo675795 bo675796 ht675805 bo675829 ht675831 r675833 bo675853 bo675854 bo675855 bo675860 bo675861 ht675870 r675898 bo675914 ht675917 r675946 bo675952 bo675953 bo675954 ht675962 bo676003 bo676004 bo676005 bo676010 bo676011 ht676020)⟩
        · have r676037 : o675914.toInt = 0 := gj_eq hc675945 (show Int32.toInt 0 = 0 by decide)
          have bo675914' : gB o675914 0 0 := ⟨by omega, by omega⟩
          exact G_vretA dr_cX14_row_97 rfl (show (16 * (o675853.toInt - p675677.toInt) + 8 : Int).toNat ≤ ((16 * (p675676.toInt - p675677.toInt)).toNat + 9) by omega) (show (160 * (o675853.toInt - p675677.toInt) + 64 : Int).toNat ≤ ((160 * (p675676.toInt - p675677.toInt)).toNat + 71) by omega) ⟨P675918, F675935, o675853, o675854, o675855, o675856, o675795, q675857, o675914, p675680, o675858, o675859, o675860, o675861, (xt675871.1, xt675871.2), rfl, rfl, hsb675929, hfr675943, he675942, he675938, he675939, (by omega), (by omega), bo675853, (gB_w bo675854' (by decide) (by decide)), bo675855, bo675795, (gB_w bo675914' (by decide) (by decide)), (gB_w bv675762 (by decide) (by decide)), bo675860, bo675861, (by have qa0 : Int32.toInt 0 = 0 := (by decide); omega), (prP_le x675863 (by omega)), (by have qa0 : Int32.toInt 0 = 0 := (by decide); omega), tp675944, x675866, x675867, x675868, (opP_of (gB_w bo675914' (by decide) (by decide))), (Or.inl (by omega)), (show nzK p675678 by unfold nzK; omega), ⟨by omega, Or.inr (by omega)⟩, (fun R c1 c2 c3 c4 c5 => c3 o675713 xt675749 o675736 o675737 o675738 o675739 xt675806 o675794 o675795 o675796 o675797 o675829 xt675871 o675853 o675854 o675855 o675856 o675858 o675859 o675860 o675861 o675914 bo675713 ht675715 r675717 bo675736 bo675737 bo675738 ht675748 bo675794 bo675795 bo675796 ht675805 bo675829 ht675831 r675833 bo675853 bo675854 bo675855 bo675860 bo675861 ht675870 r675898 bo675914 ht675917 r676037)⟩
    · have r676038 : o675829.toInt ≠ 0 := gj_neq hc675832 (show Int32.toInt 0 = 0 by decide)
      have bo675829' : gB o675829 1 1 := ⟨by omega, by omega⟩
      refine G_aload_n 0 dr_cX14_row_50 rfl ?_
      refine Gw_callV (As := []) (gV_ok D I) (cp_672367_Reader_next l hl0 D I P675807 F675808 q675673 q675675 p675676 o675794 o675795 o675796 o675797 o675737 q675798 p675683 p675684 p675685 qo675686 qo675687 p675688 f675696 hm675813 hm675815 he675811 he675812 bp675676 bo675794 bo675795 bo675796 bo675737 bp675683 bp675684 bp675685 bp675688 bf675696 (by omega) (hsb675816 _ x675699) (hsb675816 _ x675700)) dr_cX14_row_51 ⟨wr_7_215, wr_1_32, wr_7_218, by decide, rfl, (Nat.le_of_ble_eq_true rfl), (Nat.le_of_ble_eq_true rfl)⟩ wr_7_217 wr_p_75 hm675813 he675811 rfl (show (16 * (o675794.toInt - p675677.toInt) + 0 : Int).toNat + 0 + ((16 * (p675676.toInt - o675794.toInt)).toNat) ≤ ((16 * (p675676.toInt - p675677.toInt)).toNat + 9) by first | omega | decide) (show (160 * (o675794.toInt - p675677.toInt) + 0 : Int).toNat + 0 + ((160 * (p675676.toInt - o675794.toInt)).toNat) ≤ ((160 * (p675676.toInt - p675677.toInt)).toNat + 71) by first | omega | decide) (Nat.le_of_ble_eq_true rfl) (fun r676042 w676043 dc676039 ds676040 hp676041 => ?_) (fun _ _ _ _ _ z => z.elim)
      obtain ⟨P676056, F676057, o676044, o676045, o676046, o676047, q676048, xt676055, rfl, rfl, hsb676058, hfr676059, he676060, he676061, hdc, hds, bo676044, bo676045, bo676046, x676049, x676050, x676051, x676052, x676053, ht676054⟩ := hp676041
      have hm676062 : q675673 ∈ P676056 := hsb676058 q675673 hm675813
      have hm676063 : q675674 ∈ P676056 := hsb676058 q675674 hm675814
      have hm676064 : q675675 ∈ P676056 := hsb676058 q675675 hm675815
      have hsb676065 : rSub P675671 P676056 := rSub_tr hsb675816 hsb676058
      have he676066 : F676057 q675674 = .inr (20, [.int p675689, .int p675680, .int p675691, .int p675692, .int p675693, .int p675694, .int p675695]) := (hfr676059 q675674 hm675814 (nm_c (rn_oo he675817 he675811 (by decide)) nm_n)).trans he675817
      have hfr676067 : rFr [q675674, q675673] P675671 F675672 F676057 := rFr_call hsb675816 hfr675818 hfr676059 (fun b hb hn => ⟨(nm_c (fun e => hn (e ▸ List.mem_cons_self)) (nm_c (fun e => hn (e ▸ (List.mem_cons_of_mem _ List.mem_cons_self))) nm_n)), (nm_c (fun e => hn (e ▸ (List.mem_cons_of_mem _ List.mem_cons_self))) nm_n)⟩)
      have bo676047 := gB_any o676047
      change G _ _ _ _ _ _ _ _ _ _ _
      refine G_widen (cs' := (16 * (o675794.toInt - p675677.toInt) + 0 : Int).toNat + 0 + ((16 * (o676044.toInt - o675794.toInt)).toNat)) (sl' := (160 * (o675794.toInt - p675677.toInt) + 0 : Int).toNat + 0 + ((160 * (o676044.toInt - o675794.toInt)).toNat)) (by omega) (by omega) ?_
      have x676068 : p675677.toInt ≤ o676044.toInt := by omega
      have x676069 : p675677.toInt + 2 ≤ o675794.toInt := by have q := (prQ_le x675822 (isK_1 x675830 (by omega))); omega
      have x676070 : p675677.toInt + 2 ≤ o676044.toInt := by omega
      have x676071 : prQ o676045 (p675677.toInt + 3) o676044 := prP_q x676050 x676069 (by omega)
      refine G_widen (cs' := (16 * (o676044.toInt - p675677.toInt) + 0 : Int).toNat) (sl' := (160 * (o676044.toInt - p675677.toInt) + 0 : Int).toNat) (by omega) (by omega) ?_
      clear he675811 he675812 hm675813 hm675814 hm675815 hsb675816 he675817 hfr675818 hsb676058 hfr676059; try clear r675827; try clear w675828; try clear dc675824; try clear ds675825; try clear hp675826; try clear r676042; try clear w676043; try clear dc676039; try clear ds676040; try clear hp676041
      refine G_aload_n 1 dr_cX14_row_54 rfl ?_
      refine G_bipush 20 dr_cX14_row_55 (by decide +kernel) ?_
      refine Gp_put 0 hm676063 he676066 dr_cX14_row_57 (gk_X15 D I) (Nat.le_of_ble_eq_true rfl) wr_9_179 rfl rfl rfl (Nat.le_of_ble_eq_true rfl) (fun F676072 e676073 n676074 => ?_)
      have he676075 : F676072 q675673 = .inr (19, [.ref q675675, .int p675676, .int o676044, .int o676045, .int o676046, .int o676047, .int o675795, .ref q676048, .int p675683, .int p675684, .int p675685, .ref qo675686, .ref qo675687, .int p675688]) := (n676074 q675673 (rn_oo he676060 he676066 (by decide))).trans he676060
      have he676076 : F676072 q675675 = .inl (I .byte, 8192, .inl f675696) := (n676074 q675675 (rn_ao he676061 he676066)).trans he676061
      have he676077 : F676072 q675674 = .inr (20, [.int 20, .int p675680, .int p675691, .int p675692, .int p675693, .int p675694, .int p675695]) := e676073
      have hfr676078 : rFr [q675674, q675673] P675671 F675672 F676072 := rFr_put' List.mem_cons_self hfr676067 n676074
      have tp676079 : tP I P676056 F676072 o676045 q676048 qo675687 qo675686 xt676055 := tP_put x676052 he676066 (by decide) n676074
      exact G_vretA dr_cX14_row_60 rfl (show (16 * (o676044.toInt - p675677.toInt) + 0 : Int).toNat ≤ ((16 * (p675676.toInt - p675677.toInt)).toNat + 9) by omega) (show (160 * (o676044.toInt - p675677.toInt) + 0 : Int).toNat ≤ ((160 * (p675676.toInt - p675677.toInt)).toNat + 71) by omega) ⟨P676056, F676072, o676044, o676045, o676046, o676047, o675795, q676048, 20, p675680, p675691, p675692, p675694, p675695, xt676055, rfl, rfl, hsb676065, hfr676078, he676077, he676075, he676076, (by omega), (by omega), bo676044, bo676045, bo676046, bo675795, (gB_w (gBl (show Int32.toInt 20 = 20 by decide)) (by decide) (by decide)), (gB_w bv675762 (by decide) (by decide)), bp675694, bp675695, (by have qa0 : Int32.toInt 20 = 20 := (by decide); omega), (prP_le x676050 (by omega)), (by have qa0 : Int32.toInt 20 = 20 := (by decide); omega), tp676079, x676053, x675703, x675704, (Or.inr (by decide)), (Or.inr (Or.inl (by decide))), (show nzK p675678 by unfold nzK; omega), ⟨by omega, Or.inr (by omega)⟩, (fun R c1 c2 c3 c4 c5 => c4 o675713 xt675749 o675736 o675737 o675738 o675739 xt675806 o675794 o675795 o675796 o675797 o675829 xt676055 o676044 o676045 o676046 o676047 bo675713 ht675715 r675717 bo675736 bo675737 bo675738 ht675748 bo675794 bo675795 bo675796 ht675805 bo675829 ht675831 r676038 bo676044 bo676045 bo676046 ht676054)⟩
  · have r676080 : o675713.toInt ≠ 0 := gj_neq hc675716 (show Int32.toInt 0 = 0 by decide)
    have bo675713' : gB o675713 1 1 := ⟨by omega, by omega⟩
    refine G_aload_n 0 dr_cX14_row_9 rfl ?_
    refine Gw_callV (As := []) (gV_ok D I) (cp_672367_Reader_next l hl0 D I P675671 F675672 q675673 q675675 p675676 p675677 p675678 p675679 p675680 p675681 qo675682 p675683 p675684 p675685 qo675686 qo675687 p675688 f675696 hmq675673 hmq675675 heq675673 heq675675 bp675676 bp675677 bp675678 bp675679 bp675681 bp675683 bp675684 bp675685 bp675688 bf675696 (by omega) x675699 x675700) dr_cX14_row_10 ⟨wr_7_215, wr_1_32, wr_7_218, by decide, rfl, (Nat.le_of_ble_eq_true rfl), (Nat.le_of_ble_eq_true rfl)⟩ wr_7_217 wr_p_75 hmq675673 heq675673 rfl (show 0 + ((16 * (p675676.toInt - p675677.toInt)).toNat) ≤ ((16 * (p675676.toInt - p675677.toInt)).toNat + 9) by first | omega | decide) (show 0 + ((160 * (p675676.toInt - p675677.toInt)).toNat) ≤ ((160 * (p675676.toInt - p675677.toInt)).toNat + 71) by first | omega | decide) (Nat.le_of_ble_eq_true rfl) (fun r676084 w676085 dc676081 ds676082 hp676083 => ?_) (fun _ _ _ _ _ z => z.elim)
    obtain ⟨P676098, F676099, o676086, o676087, o676088, o676089, q676090, xt676097, rfl, rfl, hsb676100, hfr676101, he676102, he676103, hdc, hds, bo676086, bo676087, bo676088, x676091, x676092, x676093, x676094, x676095, ht676096⟩ := hp676083
    have hm676104 : q675673 ∈ P676098 := hsb676100 q675673 hmq675673
    have hm676105 : q675674 ∈ P676098 := hsb676100 q675674 hmq675674
    have hm676106 : q675675 ∈ P676098 := hsb676100 q675675 hmq675675
    have hsb676107 : rSub P675671 P676098 := rSub_tr (rSub_rf (P := P675671)) hsb676100
    have he676108 : F676099 q675674 = .inr (20, [.int p675689, .int p675690, .int p675691, .int p675692, .int p675693, .int p675694, .int p675695]) := (hfr676101 q675674 hmq675674 (nm_c (rn_oo heq675674 heq675673 (by decide)) nm_n)).trans heq675674
    have hfr676109 : rFr [q675673] P675671 F675672 F676099 := rFr_call (rSub_rf (P := P675671)) (rFr_rf (W := []) (P := P675671) (F := F675672)) hfr676101 (fun b hb hn => ⟨nm_n, (nm_c (fun e => hn (e ▸ List.mem_cons_self)) nm_n)⟩)
    have bo676089 := gB_any o676089
    change G _ _ _ _ _ _ _ _ _ _ _
    refine G_widen (cs' := (16 * (o676086.toInt - p675677.toInt)).toNat) (sl' := (160 * (o676086.toInt - p675677.toInt)).toNat) (by omega) (by omega) ?_
    have x676110 : p675677.toInt ≤ o676086.toInt := by omega
    have x676111 : p675677.toInt + 0 ≤ p675677.toInt := by omega
    have x676112 : p675677.toInt + 0 ≤ o676086.toInt := by omega
    have x676113 : prQ o676087 (p675677.toInt + 1) o676086 := prP_q x676092 x676111 (by omega)
    refine G_widen (cs' := (16 * (o676086.toInt - p675677.toInt) + 0 : Int).toNat) (sl' := (160 * (o676086.toInt - p675677.toInt) + 0 : Int).toNat) (by omega) (by omega) ?_
    clear hsb676100 hfr676101; try clear r675711; try clear w675712; try clear dc675708; try clear ds675709; try clear hp675710; try clear r676084; try clear w676085; try clear dc676081; try clear ds676082; try clear hp676083
    refine G_aload_n 1 dr_cX14_row_13 rfl ?_
    refine G_bipush 22 dr_cX14_row_14 (by decide +kernel) ?_
    refine Gp_put 0 hm676105 he676108 dr_cX14_row_16 (gk_X15 D I) (Nat.le_of_ble_eq_true rfl) wr_9_179 rfl rfl rfl (Nat.le_of_ble_eq_true rfl) (fun F676114 e676115 n676116 => ?_)
    have he676117 : F676114 q675673 = .inr (19, [.ref q675675, .int p675676, .int o676086, .int o676087, .int o676088, .int o676089, .int p675678, .ref q676090, .int p675683, .int p675684, .int p675685, .ref qo675686, .ref qo675687, .int p675688]) := (n676116 q675673 (rn_oo he676102 he676108 (by decide))).trans he676102
    have he676118 : F676114 q675675 = .inl (I .byte, 8192, .inl f675696) := (n676116 q675675 (rn_ao he676103 he676108)).trans he676103
    have he676119 : F676114 q675674 = .inr (20, [.int 22, .int p675690, .int p675691, .int p675692, .int p675693, .int p675694, .int p675695]) := e676115
    have hfr676120 : rFr [q675674, q675673] P675671 F675672 F676114 := rFr_put hfr676109 n676116
    have tp676121 : tP I P676098 F676114 o676087 q676090 qo675687 qo675686 xt676097 := tP_put x676094 he676108 (by decide) n676116
    refine G_aload_n 0 dr_cX14_row_19 rfl ?_
    refine G_aload_n 1 dr_cX14_row_20 rfl ?_
    refine G_iconst 0 dr_cX14_row_21 (by decide +kernel) ?_
    refine Gw_callV (As := [.ref q675674, .int 0]) (gV_ok D I) (cp_674702_Reader_operand l hl0 D I P676098 F676114 q675673 q675674 q675675 0 p675676 o676086 o676087 o676088 o676089 p675678 q676090 p675683 p675684 p675685 qo675686 qo675687 p675688 22 p675690 p675691 p675692 p675693 p675694 p675695 f675696 xt676097 hm676104 hm676105 hm676106 he676117 he676119 he676118 (gB_w (gBl (show Int32.toInt 0 = 0 by decide)) (by decide) (by decide)) bp675676 bo676086 bo676087 bo676088 bp675678 bp675683 bp675684 bp675685 bp675688 (gB_w (gBl (show Int32.toInt 22 = 22 by decide)) (by decide) (by decide)) bp675690 bp675693 bp675694 bp675695 bf675696 (by have qa0 : Int32.toInt 22 = 22 := (by decide); omega) (hsb676107 _ x675699) (hsb676107 _ x675700) tp676121 x676095 x675703 x675704 (Or.inr (by decide))) dr_cX14_row_22 ⟨wr_10_89, wr_1_32, wr_10_92, by decide, rfl, (Nat.le_of_ble_eq_true rfl), (Nat.le_of_ble_eq_true rfl)⟩ wr_10_91 wr_p_89 hm676104 he676117 rfl (show (16 * (o676086.toInt - p675677.toInt) + 0 : Int).toNat + ((16 * (p675676.toInt - o676086.toInt)).toNat + 1) ≤ ((16 * (p675676.toInt - p675677.toInt)).toNat + 9) by first | omega | decide) (show (160 * (o676086.toInt - p675677.toInt) + 0 : Int).toNat + ((160 * (p675676.toInt - o676086.toInt)).toNat + 7) ≤ ((160 * (p675676.toInt - p675677.toInt)).toNat + 71) by first | omega | decide) (Nat.le_of_ble_eq_true rfl) (fun r676125 w676126 dc676122 ds676123 hp676124 => ?_) (fun _ qx676138 _ dc676136 ds676137 hx => by obtain ⟨P676134, F676135, rfl, rfl, hsb676127, hfr676128, hq676129, hqn676130, hwr676131, hdc676132, hds676133, x676139, ht676140⟩ := hx; exact GT_outA rfl (show (16 * (o676086.toInt - p675677.toInt) + 0 : Int).toNat + dc676136 ≤ ((16 * (p675676.toInt - p675677.toInt)).toNat + 9) by omega) (show (160 * (o676086.toInt - p675677.toInt) + 0 : Int).toNat + ds676137 ≤ ((160 * (p675676.toInt - p675677.toInt)).toNat + 71) by omega) ⟨P676134, F676135, rfl, rfl, (rSub_tr hsb676107 hsb676127), (show rFr [q675674, q675673] P675671 F675672 F676135 from rFr_call hsb676107 hfr676120 hfr676128 (fun b hb hn => ⟨(nm_c (fun e => hn (e ▸ List.mem_cons_self)) (nm_c (fun e => hn (e ▸ (List.mem_cons_of_mem _ List.mem_cons_self))) nm_n)), nm_n⟩)), hq676129, (fun z => hqn676130 (hsb676107 _ z)), hwr676131, (by omega), (by omega), ⟨22, p675690, p675691, p675692, p675693, p675694, p675695, ((hfr676128 q675674 hm676105 nm_n).trans he676119), (gB_w (gBl (show Int32.toInt 22 = 22 by decide)) (by decide) (by decide)), bp675690, bp675693, bp675694, bp675695, (Or.inr (by decide)), x675703, x675704⟩, (fun R c1 c2 c3 c4 c5 => c5 o675713 xt676097 o676086 o676087 o676088 o676089 bo675713 ht675715 r676080 bo676086 bo676087 bo676088 ht676096 ht676140)⟩)
    obtain ⟨P676160, F676161, o676141, o676142, o676143, o676144, q676145, o676146, o676147, o676148, o676149, xt676159, rfl, rfl, hsb676162, hfr676163, he676164, he676165, he676166, hdc, hds, bo676141, bo676142, bo676143, bo676148, bo676149, x676150, x676151, x676152, x676153, x676154, x676155, x676156, x676157, ht676158⟩ := hp676124
    have hm676167 : q675673 ∈ P676160 := hsb676162 q675673 hm676104
    have hm676168 : q675674 ∈ P676160 := hsb676162 q675674 hm676105
    have hm676169 : q675675 ∈ P676160 := hsb676162 q675675 hm676106
    have hsb676170 : rSub P675671 P676160 := rSub_tr hsb676107 hsb676162
    have hfr676171 : rFr [q675674, q675673] P675671 F675672 F676161 := rFr_call hsb676107 hfr676120 hfr676163 (fun b hb hn => ⟨(nm_c (fun e => hn (e ▸ List.mem_cons_self)) (nm_c (fun e => hn (e ▸ (List.mem_cons_of_mem _ List.mem_cons_self))) nm_n)), (nm_c (fun e => hn (e ▸ List.mem_cons_self)) (nm_c (fun e => hn (e ▸ (List.mem_cons_of_mem _ List.mem_cons_self))) nm_n))⟩)
    have bo676144 := gB_any o676144
    have bo676146 := gB_any o676146
    have bo676147 := gB_any o676147
    change G _ _ _ _ _ _ _ _ _ _ _
    refine G_widen (cs' := (16 * (o676086.toInt - p675677.toInt) + 0 : Int).toNat + ((16 * (o676141.toInt - o676086.toInt)).toNat)) (sl' := (160 * (o676086.toInt - p675677.toInt) + 0 : Int).toNat + ((160 * (o676141.toInt - o676086.toInt)).toNat)) (by omega) (by omega) ?_
    have x676172 : p675677.toInt + 1 ≤ o676086.toInt := by have q := (prQ_le x676113 x676157); omega
    have x676173 : p675677.toInt + 1 ≤ o676141.toInt := by omega
    have x676174 : prQ o676142 (p675677.toInt + 2) o676141 := prP_q x676151 x676172 (by omega)
    exact G_vretA dr_cX14_row_25 rfl (show (16 * (o676086.toInt - p675677.toInt) + 0 : Int).toNat + ((16 * (o676141.toInt - o676086.toInt)).toNat) ≤ ((16 * (p675676.toInt - p675677.toInt)).toNat + 9) by omega) (show (160 * (o676086.toInt - p675677.toInt) + 0 : Int).toNat + ((160 * (o676141.toInt - o676086.toInt)).toNat) ≤ ((160 * (p675676.toInt - p675677.toInt)).toNat + 71) by omega) ⟨P676160, F676161, o676141, o676142, o676143, o676144, o676087, q676145, 22, p675690, o676146, o676147, o676148, o676149, xt676159, rfl, rfl, hsb676170, hfr676171, he676164, he676165, he676166, (by omega), (by omega), bo676141, bo676142, bo676143, bo676087, (gB_w (gBl (show Int32.toInt 22 = 22 by decide)) (by decide) (by decide)), bp675690, bo676148, bo676149, (by have qa0 : Int32.toInt 22 = 22 := (by decide); omega), (prP_le x676151 (by omega)), (by have qa0 : Int32.toInt 22 = 22 := (by decide); omega), x676153, x676154, x676155, x676156, (Or.inr (by decide)), (Or.inr (Or.inr (by decide))), (isK_1 x675714 (by omega)), ⟨by omega, x676174⟩, (fun R c1 c2 c3 c4 c5 => c5 o675713 xt676097 o676086 o676087 o676088 o676089 xt676159 o676141 o676142 o676143 o676144 o676146 o676147 o676148 o676149 bo675713 ht675715 r676080 bo676086 bo676087 bo676088 ht676096 bo676141 bo676142 bo676143 bo676148 bo676149 ht676158)⟩
/- tr_RReader_end: a.0...at, a.0...kind, a.0...place, a.0...value, a.0...before, a.0...goalN, a.1...first, a.1...second, a.0.goalPlaces.#, a.0.goalPlaces.[], a.0.goals.#, a.0.goals.[], a.1.end...op, a.1.end...a, a.1.end...b, a.1.end...regA, a.1.end...regB -/
def tr_RReader_end (a0_n : Int32) (a0_at : Int32) (a0_kind : Int32) (a0_value : Int32) (a0_goalN : Int32) (a0_t_v : Nat → Int32) (p : Nat → Int32) (p2 : Nat) (p3 : Nat → Int32) (p4 : Nat) (a1_end_b : Int32) (a1_end_regB : Int32) (xt : gTx) (o1 : Int32) (o2 : Int32) (o3 : Int32) (o4 : Int32) (o5 : Int32) (o6 : Int32) (o7 : Int32) (o8 : Int32) (o9 : Nat) (o10 : Nat → Int32) (o11 : Nat) (o12 : Nat → Int32) (o13 : Int32) (o14 : Int32) (o15 : Int32) (o16 : Int32) (o17 : Int32) (o18 : gTx) : Prop := ∀ R : (Int32) → (Int32) → (Int32) → (Int32) → (Int32) → (Int32) → (Int32) → (Int32) → (Nat) → (Nat → Int32) → (Nat) → (Nat → Int32) → (Int32) → (Int32) → (Int32) → (Int32) → (Int32) → (gTx) → Prop,
  (∀ (x1 : Int32) (x2 : Int32) (x3 : Int32) (x4 : gTx) (x5 : Int32) (x6 : Int32) (x7 : Int32) (x8 : Int32) (x9 : gTx) (x10 : Int32) (x11 : Int32) (x12 : Int32) (x13 : Int32) (x14 : Int32) (x15 : Int32) (x16 : Int32) (x17 : Int32), gB x1 0 1 → tr_RReader_is sb_44 a0_kind xt x1 → x1.toInt = 0 → gB x2 0 1 → tr_RReader_is sb_45 a0_kind xt x2 → x2.toInt = 0 → gB x3 0 1 → tr_RReader_is sb_46 a0_kind xt x3 → x3.toInt ≠ 0 → gB x5 0 8192 → gB x6 0 6 → gB x7 0 8192 → tr_RReader_next a0_n a0_at a0_kind a0_value a0_t_v x5 x6 x7 x8 x4 → gB x10 0 8192 → gB x11 0 6 → gB x12 0 8192 → gB x16 0 1 → gB x17 0 1 → tr_RReader_operand (0 : Int32) a0_n x5 x6 x8 (0 : Int32) a1_end_b (0 : Int32) a1_end_regB a0_t_v x10 x11 x12 x13 x14 x15 x16 x17 x9 → R x10 x11 x12 x13 x6 a0_goalN (0 : Int32) (0 : Int32) p2 p p4 p3 (32 : Int32) x14 x15 x16 x17 x9) →
  (∀ (x1 : Int32) (x2 : Int32) (x3 : gTx) (x4 : Int32) (x5 : Int32) (x6 : Int32) (x7 : Int32) (x8 : gTx) (x9 : Int32) (x10 : Int32) (x11 : Int32) (x12 : Int32) (x13 : Int32) (x14 : Int32) (x15 : Int32) (x16 : Int32) (x17 : gTx) (x18 : Int32) (x19 : Int32) (x20 : Int32) (x21 : Int32) (x22 : Int32) (x23 : Nat) (x24 : Nat → Int32) (x25 : Nat) (x26 : Nat → Int32) (x27 : gTx) (x28 : Int32) (x29 : Int32) (x30 : Int32) (x31 : Int32) (x32 : Int32) (x33 : Nat) (x34 : Nat → Int32) (x35 : Nat) (x36 : Nat → Int32), gB x1 0 1 → tr_RReader_is sb_44 a0_kind xt x1 → x1.toInt = 0 → gB x2 0 1 → tr_RReader_is sb_45 a0_kind xt x2 → x2.toInt ≠ 0 → gB x4 0 8192 → gB x5 0 6 → gB x6 0 8192 → tr_RReader_next a0_n a0_at a0_kind a0_value a0_t_v x4 x5 x6 x7 x3 → gB x9 0 8192 → gB x10 0 6 → gB x11 0 8192 → gB x15 0 1 → gB x16 0 1 → tr_RReader_operand (0 : Int32) a0_n x4 x5 x7 (0 : Int32) a1_end_b (0 : Int32) a1_end_regB a0_t_v x9 x10 x11 x12 x13 x14 x15 x16 x8 → gB x18 0 8192 → gB x19 0 6 → gB x20 0 8192 → gB x22 1 1000000 → tr_RReader_goal a0_n x9 x10 x11 x12 a0_goalN a0_t_v p p2 p3 p4 x18 x19 x20 x21 x22 x23 x24 x25 x26 x17 → gB x28 0 8192 → gB x29 0 6 → gB x30 0 8192 → gB x32 1 1000000 → tr_RReader_goal a0_n x18 x19 x20 x21 x22 a0_t_v x24 x23 x26 x25 x28 x29 x30 x31 x32 x33 x34 x35 x36 x27 → R x28 x29 x30 x31 x19 x32 x12 x21 x33 x34 x35 x36 (31 : Int32) x13 x14 x15 x16 x27) →
  (∀ (x1 : Int32) (x2 : gTx) (x3 : Int32) (x4 : Int32) (x5 : Int32) (x6 : Int32) (x7 : gTx) (x8 : Int32) (x9 : Int32) (x10 : Int32) (x11 : Int32) (x12 : Int32) (x13 : Nat) (x14 : Nat → Int32) (x15 : Nat) (x16 : Nat → Int32), gB x1 0 1 → tr_RReader_is sb_44 a0_kind xt x1 → x1.toInt ≠ 0 → gB x3 0 8192 → gB x4 0 6 → gB x5 0 8192 → tr_RReader_next a0_n a0_at a0_kind a0_value a0_t_v x3 x4 x5 x6 x2 → gB x8 0 8192 → gB x9 0 6 → gB x10 0 8192 → gB x12 1 1000000 → tr_RReader_goal a0_n x3 x4 x5 x6 a0_goalN a0_t_v p p2 p3 p4 x8 x9 x10 x11 x12 x13 x14 x15 x16 x7 → R x8 x9 x10 x11 x4 x12 x6 x6 x13 x14 x15 x16 (30 : Int32) (0 : Int32) a1_end_b (0 : Int32) a1_end_regB x7) →
  R o1 o2 o3 o4 o5 o6 o7 o8 o9 o10 o11 o12 o13 o14 o15 o16 o17 o18
/- tx_RReader_end: throws -/
def tx_RReader_end (a0_n : Int32) (a0_at : Int32) (a0_kind : Int32) (a0_value : Int32) (a0_goalN : Int32) (a0_t_v : Nat → Int32) (p : Nat → Int32) (p2 : Nat) (p3 : Nat → Int32) (p4 : Nat) (a1_end_b : Int32) (a1_end_regB : Int32) (xt : gTx) : Prop := ∀ R : Prop,
  (∀ (x1 : Int32) (x2 : Int32) (x3 : Int32), gB x1 0 1 → tr_RReader_is sb_44 a0_kind xt x1 → x1.toInt = 0 → gB x2 0 1 → tr_RReader_is sb_45 a0_kind xt x2 → x2.toInt = 0 → gB x3 0 1 → tr_RReader_is sb_46 a0_kind xt x3 → x3.toInt = 0 → R) →
  (∀ (x1 : Int32) (x2 : Int32) (x3 : Int32) (x4 : gTx) (x5 : Int32) (x6 : Int32) (x7 : Int32) (x8 : Int32), gB x1 0 1 → tr_RReader_is sb_44 a0_kind xt x1 → x1.toInt = 0 → gB x2 0 1 → tr_RReader_is sb_45 a0_kind xt x2 → x2.toInt = 0 → gB x3 0 1 → tr_RReader_is sb_46 a0_kind xt x3 → x3.toInt ≠ 0 → gB x5 0 8192 → gB x6 0 6 → gB x7 0 8192 → tr_RReader_next a0_n a0_at a0_kind a0_value a0_t_v x5 x6 x7 x8 x4 → tx_RReader_operand x6 → R) →
  (∀ (x1 : Int32) (x2 : Int32) (x3 : gTx) (x4 : Int32) (x5 : Int32) (x6 : Int32) (x7 : Int32), gB x1 0 1 → tr_RReader_is sb_44 a0_kind xt x1 → x1.toInt = 0 → gB x2 0 1 → tr_RReader_is sb_45 a0_kind xt x2 → x2.toInt ≠ 0 → gB x4 0 8192 → gB x5 0 6 → gB x6 0 8192 → tr_RReader_next a0_n a0_at a0_kind a0_value a0_t_v x4 x5 x6 x7 x3 → tx_RReader_operand x5 → R) →
  (∀ (x1 : Int32) (x2 : Int32) (x3 : gTx) (x4 : Int32) (x5 : Int32) (x6 : Int32) (x7 : Int32) (x8 : gTx) (x9 : Int32) (x10 : Int32) (x11 : Int32) (x12 : Int32) (x13 : Int32) (x14 : Int32) (x15 : Int32) (x16 : Int32), gB x1 0 1 → tr_RReader_is sb_44 a0_kind xt x1 → x1.toInt = 0 → gB x2 0 1 → tr_RReader_is sb_45 a0_kind xt x2 → x2.toInt ≠ 0 → gB x4 0 8192 → gB x5 0 6 → gB x6 0 8192 → tr_RReader_next a0_n a0_at a0_kind a0_value a0_t_v x4 x5 x6 x7 x3 → gB x9 0 8192 → gB x10 0 6 → gB x11 0 8192 → gB x15 0 1 → gB x16 0 1 → tr_RReader_operand (0 : Int32) a0_n x4 x5 x7 (0 : Int32) a1_end_b (0 : Int32) a1_end_regB a0_t_v x9 x10 x11 x12 x13 x14 x15 x16 x8 → tx_RReader_goal x10 a0_goalN p p2 p3 p4 → R) →
  (∀ (x1 : Int32) (x2 : Int32) (x3 : gTx) (x4 : Int32) (x5 : Int32) (x6 : Int32) (x7 : Int32) (x8 : gTx) (x9 : Int32) (x10 : Int32) (x11 : Int32) (x12 : Int32) (x13 : Int32) (x14 : Int32) (x15 : Int32) (x16 : Int32) (x17 : gTx) (x18 : Int32) (x19 : Int32) (x20 : Int32) (x21 : Int32) (x22 : Int32) (x23 : Nat) (x24 : Nat → Int32) (x25 : Nat) (x26 : Nat → Int32), gB x1 0 1 → tr_RReader_is sb_44 a0_kind xt x1 → x1.toInt = 0 → gB x2 0 1 → tr_RReader_is sb_45 a0_kind xt x2 → x2.toInt ≠ 0 → gB x4 0 8192 → gB x5 0 6 → gB x6 0 8192 → tr_RReader_next a0_n a0_at a0_kind a0_value a0_t_v x4 x5 x6 x7 x3 → gB x9 0 8192 → gB x10 0 6 → gB x11 0 8192 → gB x15 0 1 → gB x16 0 1 → tr_RReader_operand (0 : Int32) a0_n x4 x5 x7 (0 : Int32) a1_end_b (0 : Int32) a1_end_regB a0_t_v x9 x10 x11 x12 x13 x14 x15 x16 x8 → gB x18 0 8192 → gB x19 0 6 → gB x20 0 8192 → gB x22 1 1000000 → tr_RReader_goal a0_n x9 x10 x11 x12 a0_goalN a0_t_v p p2 p3 p4 x18 x19 x20 x21 x22 x23 x24 x25 x26 x17 → tx_RReader_goal x19 x22 x24 x23 x26 x25 → R) →
  (∀ (x1 : Int32) (x2 : gTx) (x3 : Int32) (x4 : Int32) (x5 : Int32) (x6 : Int32), gB x1 0 1 → tr_RReader_is sb_44 a0_kind xt x1 → x1.toInt ≠ 0 → gB x3 0 8192 → gB x4 0 6 → gB x5 0 8192 → tr_RReader_next a0_n a0_at a0_kind a0_value a0_t_v x3 x4 x5 x6 x2 → tx_RReader_goal x4 a0_goalN p p2 p3 p4 → R) →
  R
