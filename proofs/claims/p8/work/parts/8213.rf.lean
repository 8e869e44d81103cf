theorem dr_cJ7_copyOf_59c91_0 : decode cJ7_copyOf_59c91 0 = .ok (.iload_n 1, 1) := by decide +kernel
theorem dr_cJ7_copyOf_59c91_1 : decode cJ7_copyOf_59c91 1 = .ok (.aload_n 0, 1) := by decide +kernel
theorem dr_cJ7_copyOf_59c91_2 : decode cJ7_copyOf_59c91 2 = .ok (.arraylength, 1) := by decide +kernel
theorem dr_cJ7_copyOf_59c91_3 : decode cJ7_copyOf_59c91 3 = .ok (.if_icmp .ne 11, 3) := by decide +kernel
theorem dr_cJ7_copyOf_59c91_14 : decode cJ7_copyOf_59c91 14 = .ok (.iload_n 1, 1) := by decide +kernel
theorem dr_cJ7_copyOf_59c91_15 : decode cJ7_copyOf_59c91 15 = .ok (.newarray .int, 2) := by decide +kernel
theorem wr_1_95 : (Jvm.Cond.arrayClass Jvm.ClassFile.FieldType.int) ∈ gw := gw_1 95 rfl rfl
theorem dr_cJ7_copyOf_59c91_17 : decode cJ7_copyOf_59c91 17 = .ok (.astore_n 2, 1) := by decide +kernel
theorem dr_cJ7_copyOf_59c91_18 : decode cJ7_copyOf_59c91 18 = .ok (.aload_n 0, 1) := by decide +kernel
theorem dr_cJ7_copyOf_59c91_19 : decode cJ7_copyOf_59c91 19 = .ok (.iconst 0, 1) := by decide +kernel
theorem dr_cJ7_copyOf_59c91_20 : decode cJ7_copyOf_59c91 20 = .ok (.aload_n 2, 1) := by decide +kernel
theorem dr_cJ7_copyOf_59c91_21 : decode cJ7_copyOf_59c91 21 = .ok (.iconst 0, 1) := by decide +kernel
theorem dr_cJ7_copyOf_59c91_22 : decode cJ7_copyOf_59c91 22 = .ok (.aload_n 0, 1) := by decide +kernel
theorem dr_cJ7_copyOf_59c91_23 : decode cJ7_copyOf_59c91 23 = .ok (.arraylength, 1) := by decide +kernel
theorem dr_cJ7_copyOf_59c91_24 : decode cJ7_copyOf_59c91 24 = .ok (.iload_n 1, 1) := by decide +kernel
theorem dr_cJ7_copyOf_59c91_25 : decode cJ7_copyOf_59c91 25 = .ok (.invokestatic 304, 3) := by decide +kernel
theorem dr_cJ7_copyOf_59c91_28 : decode cJ7_copyOf_59c91 28 = .ok (.invokestatic 150, 3) := by decide +kernel
theorem dr_cJ7_copyOf_59c91_31 : decode cJ7_copyOf_59c91 31 = .ok (.aload_n 2, 1) := by decide +kernel
theorem dr_cJ7_copyOf_59c91_32 : decode cJ7_copyOf_59c91 32 = .ok (.areturn, 1) := by decide +kernel
theorem dr_cX14_goal_0 : decode cX14_goal 0 = .ok (.aload_n 0, 1) := by decide +kernel
theorem dr_cX14_goal_1 : decode cX14_goal 1 = .ok (.getfield 143, 3) := by decide +kernel
theorem wr_9_51 : (Jvm.Cond.fieldLink "SpillForgeModel$Reader" (143 : Nat) "SpillForgeModel$Reader" "goalN" "I") ∈ gw := gw_9 51 rfl rfl
theorem dr_cX14_goal_4 : decode cX14_goal 4 = .ok (.aload_n 0, 1) := by decide +kernel
theorem dr_cX14_goal_5 : decode cX14_goal 5 = .ok (.getfield 25, 3) := by decide +kernel
theorem wr_9_50 : (Jvm.Cond.fieldLink "SpillForgeModel$Reader" (25 : Nat) "SpillForgeModel$Reader" "goals" "[I") ∈ gw := gw_9 50 rfl rfl
theorem dr_cX14_goal_8 : decode cX14_goal 8 = .ok (.arraylength, 1) := by decide +kernel
theorem dr_cX14_goal_9 : decode cX14_goal 9 = .ok (.if_icmp .ne 37, 3) := by decide +kernel
theorem dr_cX14_goal_46 : decode cX14_goal 46 = .ok (.aload_n 0, 1) := by decide +kernel
theorem dr_cX14_goal_47 : decode cX14_goal 47 = .ok (.getfield 21, 3) := by decide +kernel
theorem wr_9_49 : (Jvm.Cond.fieldLink "SpillForgeModel$Reader" (21 : Nat) "SpillForgeModel$Reader" "goalPlaces" "[I") ∈ gw := gw_9 49 rfl rfl
theorem dr_cX14_goal_50 : decode cX14_goal 50 = .ok (.aload_n 0, 1) := by decide +kernel
theorem dr_cX14_goal_51 : decode cX14_goal 51 = .ok (.getfield 143, 3) := by decide +kernel
theorem dr_cX14_goal_54 : decode cX14_goal 54 = .ok (.aload_n 0, 1) := by decide +kernel
theorem dr_cX14_goal_55 : decode cX14_goal 55 = .ok (.getfield 47, 3) := by decide +kernel
theorem dr_cX14_goal_58 : decode cX14_goal 58 = .ok (.iastore, 1) := by decide +kernel
theorem dr_cX14_goal_59 : decode cX14_goal 59 = .ok (.aload_n 0, 1) := by decide +kernel
theorem dr_cX14_goal_60 : decode cX14_goal 60 = .ok (.iconst 3, 1) := by decide +kernel
theorem dr_cX14_goal_61 : decode cX14_goal 61 = .ok (.invokevirtual 152, 3) := by decide +kernel
theorem wr_9_93 : (Jvm.Cond.methodLink "SpillForgeModel$Reader" (152 : Nat) ({ cls := "SpillForgeModel$Reader", name := "want", desc := "(I)I" } : Jvm.MethodName)) ∈ gw := gw_9 93 rfl rfl
theorem wr_9_96 : (Jvm.Cond.code ({ cls := "SpillForgeModel$Reader", name := "want", desc := "(I)I" } : Jvm.MethodName) prog_17_method_11_code (3 : Nat) (Option.some Jvm.ClassFile.FieldType.int)) ∈ gw := gw_9 96 rfl rfl
theorem wr_9_95 : (Jvm.Cond.instanceMethod ({ cls := "SpillForgeModel$Reader", name := "want", desc := "(I)I" } : Jvm.MethodName)) ∈ gw := gw_9 95 rfl rfl
theorem wr_p_80 : Cond.selects "SpillForgeModel$Reader" ⟨"SpillForgeModel$Reader", "want", "(I)I"⟩ ⟨"SpillForgeModel$Reader", "want", "(I)I"⟩ ∈ gw := gw_p _ 80 rfl rfl rfl
theorem dr_cX14_goal_64 : decode cX14_goal 64 = .ok (.istore_n 1, 1) := by decide +kernel
theorem dr_cX14_goal_65 : decode cX14_goal 65 = .ok (.aload_n 0, 1) := by decide +kernel
theorem dr_cX14_goal_66 : decode cX14_goal 66 = .ok (.getfield 25, 3) := by decide +kernel
theorem dr_cX14_goal_69 : decode cX14_goal 69 = .ok (.aload_n 0, 1) := by decide +kernel
theorem dr_cX14_goal_70 : decode cX14_goal 70 = .ok (.getfield 143, 3) := by decide +kernel
theorem dr_cX14_goal_73 : decode cX14_goal 73 = .ok (.iload_n 1, 1) := by decide +kernel
theorem dr_cX14_goal_74 : decode cX14_goal 74 = .ok (.iastore, 1) := by decide +kernel
theorem dr_cX14_goal_75 : decode cX14_goal 75 = .ok (.aload_n 0, 1) := by decide +kernel
theorem dr_cX14_goal_76 : decode cX14_goal 76 = .ok (.dup, 1) := by decide +kernel
theorem dr_cX14_goal_77 : decode cX14_goal 77 = .ok (.getfield 143, 3) := by decide +kernel
theorem dr_cX14_goal_80 : decode cX14_goal 80 = .ok (.iconst 1, 1) := by decide +kernel
theorem dr_cX14_goal_81 : decode cX14_goal 81 = .ok (.iadd, 1) := by decide +kernel
theorem dr_cX14_goal_82 : decode cX14_goal 82 = .ok (.putfield 143, 3) := by decide +kernel
theorem dr_cX14_goal_85 : decode cX14_goal 85 = .ok (.iload_n 1, 1) := by decide +kernel
theorem dr_cX14_goal_86 : decode cX14_goal 86 = .ok (.ireturn, 1) := by decide +kernel
theorem dr_cX14_goal_12 : decode cX14_goal 12 = .ok (.aload_n 0, 1) := by decide +kernel
theorem dr_cX14_goal_13 : decode cX14_goal 13 = .ok (.aload_n 0, 1) := by decide +kernel
theorem dr_cX14_goal_14 : decode cX14_goal 14 = .ok (.getfield 25, 3) := by decide +kernel
theorem dr_cX14_goal_17 : decode cX14_goal 17 = .ok (.iconst 2, 1) := by decide +kernel
theorem dr_cX14_goal_18 : decode cX14_goal 18 = .ok (.aload_n 0, 1) := by decide +kernel
theorem dr_cX14_goal_19 : decode cX14_goal 19 = .ok (.getfield 143, 3) := by decide +kernel
theorem dr_cX14_goal_22 : decode cX14_goal 22 = .ok (.imul, 1) := by decide +kernel
theorem dr_cX14_goal_23 : decode cX14_goal 23 = .ok (.invokestatic 146, 3) := by decide +kernel
theorem wr_10_114 : (Jvm.Cond.methodLink "SpillForgeModel$Reader" (146 : Nat) ({ cls := "java/util/Arrays", name := "copyOf", desc := "([II)[I" } : Jvm.MethodName)) ∈ gw := gw_10 114 rfl rfl
theorem wr_10_116 : (Jvm.Cond.code ({ cls := "java/util/Arrays", name := "copyOf", desc := "([II)[I" } : Jvm.MethodName) prog_44_method_123_code (3 : Nat) (Option.some (Jvm.ClassFile.FieldType.array Jvm.ClassFile.FieldType.int))) ∈ gw := gw_10 116 rfl rfl
theorem wr_10_115 : (Jvm.Cond.static ({ cls := "java/util/Arrays", name := "copyOf", desc := "([II)[I" } : Jvm.MethodName)) ∈ gw := gw_10 115 rfl rfl
theorem dr_cX14_goal_26 : decode cX14_goal 26 = .ok (.putfield 25, 3) := by decide +kernel
theorem dr_cX14_goal_29 : decode cX14_goal 29 = .ok (.aload_n 0, 1) := by decide +kernel
theorem dr_cX14_goal_30 : decode cX14_goal 30 = .ok (.aload_n 0, 1) := by decide +kernel
theorem dr_cX14_goal_31 : decode cX14_goal 31 = .ok (.getfield 21, 3) := by decide +kernel
theorem dr_cX14_goal_34 : decode cX14_goal 34 = .ok (.iconst 2, 1) := by decide +kernel
theorem dr_cX14_goal_35 : decode cX14_goal 35 = .ok (.aload_n 0, 1) := by decide +kernel
theorem dr_cX14_goal_36 : decode cX14_goal 36 = .ok (.getfield 143, 3) := by decide +kernel
theorem dr_cX14_goal_39 : decode cX14_goal 39 = .ok (.imul, 1) := by decide +kernel
theorem dr_cX14_goal_40 : decode cX14_goal 40 = .ok (.invokestatic 146, 3) := by decide +kernel
theorem dr_cX14_goal_43 : decode cX14_goal 43 = .ok (.putfield 21, 3) := by decide +kernel
theorem dr_cX14_row_0 : decode cX14_row 0 = .ok (.aload_n 0, 1) := by decide +kernel
theorem dr_cX14_row_1 : decode cX14_row 1 = .ok (.ldc 179, 2) := by decide +kernel
theorem dr_cX14_row_3 : decode cX14_row 3 = .ok (.invokevirtual 132, 3) := by decide +kernel
theorem dr_cX14_row_6 : decode cX14_row 6 = .ok (.ifCond .eq 20, 3) := by decide +kernel
theorem dr_cX14_row_26 : decode cX14_row 26 = .ok (.aload_n 1, 1) := by decide +kernel
theorem dr_cX14_row_27 : decode cX14_row 27 = .ok (.aload_n 0, 1) := by decide +kernel
theorem dr_cX14_row_28 : decode cX14_row 28 = .ok (.iconst 2, 1) := by decide +kernel
theorem dr_cX14_row_29 : decode cX14_row 29 = .ok (.invokevirtual 152, 3) := by decide +kernel
theorem dr_cX14_row_32 : decode cX14_row 32 = .ok (.putfield 227, 3) := by decide +kernel
theorem wr_9_183 : (Jvm.Cond.fieldLink "SpillForgeModel$Reader" (227 : Nat) "SpillForgeModel$Row" "t" "I") ∈ gw := gw_9 183 rfl rfl
theorem dr_cX14_row_35 : decode cX14_row 35 = .ok (.aload_n 0, 1) := by decide +kernel
theorem dr_cX14_row_36 : decode cX14_row 36 = .ok (.ldc 229, 2) := by decide +kernel
theorem dr_cX14_row_38 : decode cX14_row 38 = .ok (.invokevirtual 173, 3) := by decide +kernel
theorem wr_9_137 : (Jvm.Cond.methodLink "SpillForgeModel$Reader" (173 : Nat) ({ cls := "SpillForgeModel$Reader", name := "want", desc := "(Ljava/lang/String;)V" } : Jvm.MethodName)) ∈ gw := gw_9 137 rfl rfl
theorem wr_9_140 : (Jvm.Cond.code ({ cls := "SpillForgeModel$Reader", name := "want", desc := "(Ljava/lang/String;)V" } : Jvm.MethodName) prog_17_method_10_code (2 : Nat) (Option.none : Option Jvm.ClassFile.FieldType)) ∈ gw := gw_9 140 rfl rfl
theorem wr_9_139 : (Jvm.Cond.instanceMethod ({ cls := "SpillForgeModel$Reader", name := "want", desc := "(Ljava/lang/String;)V" } : Jvm.MethodName)) ∈ gw := gw_9 139 rfl rfl
theorem wr_p_83 : Cond.selects "SpillForgeModel$Reader" ⟨"SpillForgeModel$Reader", "want", "(Ljava/lang/String;)V"⟩ ⟨"SpillForgeModel$Reader", "want", "(Ljava/lang/String;)V"⟩ ∈ gw := gw_p _ 83 rfl rfl rfl
theorem dr_cX14_row_41 : decode cX14_row 41 = .ok (.aload_n 0, 1) := by decide +kernel
theorem dr_cX14_row_42 : decode cX14_row 42 = .ok (.ldc 231, 2) := by decide +kernel
theorem dr_cX14_row_44 : decode cX14_row 44 = .ok (.invokevirtual 132, 3) := by decide +kernel
theorem dr_cX14_row_47 : decode cX14_row 47 = .ok (.ifCond .eq 14, 3) := by decide +kernel
theorem dr_cX14_row_61 : decode cX14_row 61 = .ok (.aload_n 0, 1) := by decide +kernel
theorem dr_cX14_row_62 : decode cX14_row 62 = .ok (.aload_n 1, 1) := by decide +kernel
theorem dr_cX14_row_63 : decode cX14_row 63 = .ok (.iconst 0, 1) := by decide +kernel
theorem dr_cX14_row_64 : decode cX14_row 64 = .ok (.invokevirtual 223, 3) := by decide +kernel
theorem wr_10_89 : (Jvm.Cond.methodLink "SpillForgeModel$Reader" (223 : Nat) ({ cls := "SpillForgeModel$Reader", name := "operand", desc := "(LSpillForgeModel$Row;Z)V" } : Jvm.MethodName)) ∈ gw := gw_10 89 rfl rfl
theorem wr_10_92 : (Jvm.Cond.code ({ cls := "SpillForgeModel$Reader", name := "operand", desc := "(LSpillForgeModel$Row;Z)V" } : Jvm.MethodName) prog_17_method_16_code (4 : Nat) (Option.none : Option Jvm.ClassFile.FieldType)) ∈ gw := gw_10 92 rfl rfl
theorem wr_10_91 : (Jvm.Cond.instanceMethod ({ cls := "SpillForgeModel$Reader", name := "operand", desc := "(LSpillForgeModel$Row;Z)V" } : Jvm.MethodName)) ∈ gw := gw_10 91 rfl rfl
theorem wr_p_89 : Cond.selects "SpillForgeModel$Reader" ⟨"SpillForgeModel$Reader", "operand", "(LSpillForgeModel$Row;Z)V"⟩ ⟨"SpillForgeModel$Reader", "operand", "(LSpillForgeModel$Row;Z)V"⟩ ∈ gw := gw_p _ 89 rfl rfl rfl
theorem dr_cX14_row_67 : decode cX14_row 67 = .ok (.aload_n 1, 1) := by decide +kernel
theorem dr_cX14_row_68 : decode cX14_row 68 = .ok (.aload_n 0, 1) := by decide +kernel
theorem dr_cX14_row_69 : decode cX14_row 69 = .ok (.getfield 38, 3) := by decide +kernel
theorem dr_cX14_row_72 : decode cX14_row 72 = .ok (.iconst 5, 1) := by decide +kernel
theorem dr_cX14_row_73 : decode cX14_row 73 = .ok (.if_icmp .ne 13, 3) := by decide +kernel
theorem dr_cX14_row_86 : decode cX14_row 86 = .ok (.iconst 0, 1) := by decide +kernel
theorem dr_cX14_row_87 : decode cX14_row 87 = .ok (.putfield 220, 3) := by decide +kernel
theorem wr_9_179 : (Jvm.Cond.fieldLink "SpillForgeModel$Reader" (220 : Nat) "SpillForgeModel$Row" "op" "I") ∈ gw := gw_9 179 rfl rfl
theorem dr_cX14_row_90 : decode cX14_row 90 = .ok (.aload_n 1, 1) := by decide +kernel
theorem dr_cX14_row_91 : decode cX14_row 91 = .ok (.getfield 220, 3) := by decide +kernel
theorem dr_cX14_row_94 : decode cX14_row 94 = .ok (.ifCond .ne 4, 3) := by decide +kernel
theorem dr_cX14_row_97 : decode cX14_row 97 = .ok (.return_, 1) := by decide +kernel
theorem dr_cX14_row_76 : decode cX14_row 76 = .ok (.aload_n 0, 1) := by decide +kernel
theorem dr_cX14_row_77 : decode cX14_row 77 = .ok (.getfield 11, 3) := by decide +kernel
theorem dr_cX14_row_80 : decode cX14_row 80 = .ok (.invokestatic 233, 3) := by decide +kernel
theorem wr_10_97 : (Jvm.Cond.code ({ cls := "SpillForgeModel", name := "operation", desc := "(Ljava/lang/String;)I" } : Jvm.MethodName) prog_14_method_1_code (4 : Nat) (Option.some Jvm.ClassFile.FieldType.int)) ∈ gw := gw_10 97 rfl rfl
theorem wr_10_96 : (Jvm.Cond.static ({ cls := "SpillForgeModel", name := "operation", desc := "(Ljava/lang/String;)I" } : Jvm.MethodName)) ∈ gw := gw_10 96 rfl rfl
theorem dr_cX14_row_83 : decode cX14_row 83 = .ok (.goto 4, 3) := by decide +kernel
theorem dr_cX14_row_98 : decode cX14_row 98 = .ok (.aload_n 0, 1) := by decide +kernel
theorem dr_cX14_row_99 : decode cX14_row 99 = .ok (.invokevirtual 35, 3) := by decide +kernel
theorem dr_cX14_row_102 : decode cX14_row 102 = .ok (.aload_n 0, 1) := by decide +kernel
theorem dr_cX14_row_103 : decode cX14_row 103 = .ok (.aload_n 1, 1) := by decide +kernel
theorem dr_cX14_row_104 : decode cX14_row 104 = .ok (.iconst 1, 1) := by decide +kernel
theorem dr_cX14_row_105 : decode cX14_row 105 = .ok (.invokevirtual 223, 3) := by decide +kernel
theorem dr_cX14_row_108 : decode cX14_row 108 = .ok (.return_, 1) := by decide +kernel
theorem dr_cX14_row_50 : decode cX14_row 50 = .ok (.aload_n 0, 1) := by decide +kernel
theorem dr_cX14_row_51 : decode cX14_row 51 = .ok (.invokevirtual 35, 3) := by decide +kernel
theorem dr_cX14_row_54 : decode cX14_row 54 = .ok (.aload_n 1, 1) := by decide +kernel
theorem dr_cX14_row_55 : decode cX14_row 55 = .ok (.bipush 20, 2) := by decide +kernel
theorem dr_cX14_row_57 : decode cX14_row 57 = .ok (.putfield 220, 3) := by decide +kernel
theorem dr_cX14_row_60 : decode cX14_row 60 = .ok (.return_, 1) := by decide +kernel
theorem dr_cX14_row_9 : decode cX14_row 9 = .ok (.aload_n 0, 1) := by decide +kernel
theorem dr_cX14_row_10 : decode cX14_row 10 = .ok (.invokevirtual 35, 3) := by decide +kernel
theorem dr_cX14_row_13 : decode cX14_row 13 = .ok (.aload_n 1, 1) := by decide +kernel
theorem dr_cX14_row_14 : decode cX14_row 14 = .ok (.bipush 22, 2) := by decide +kernel
theorem dr_cX14_row_16 : decode cX14_row 16 = .ok (.putfield 220, 3) := by decide +kernel
theorem dr_cX14_row_19 : decode cX14_row 19 = .ok (.aload_n 0, 1) := by decide +kernel
theorem dr_cX14_row_20 : decode cX14_row 20 = .ok (.aload_n 1, 1) := by decide +kernel
theorem dr_cX14_row_21 : decode cX14_row 21 = .ok (.iconst 0, 1) := by decide +kernel
theorem dr_cX14_row_22 : decode cX14_row 22 = .ok (.invokevirtual 223, 3) := by decide +kernel
theorem dr_cX14_row_25 : decode cX14_row 25 = .ok (.return_, 1) := by decide +kernel
abbrev ky_674655_Arrays_copyOf : gKey := (cJ7_copyOf_59c91, 3, "java/util/Arrays", (some (FieldType.array FieldType.int)), [], "copyOf", fun _ _ => True)
def pp_674655_Arrays_copyOf (D : va_G) (I : FieldType → ClassId) (P674647 : List Nat) (F674648 : Nat → va_E) (q674649 : Nat) (p674650 : Int32) (f674651 : Nat → Int32) (n674652 : Nat) : Option Value → va_W → Nat → Nat → Prop := fun r w dc ds => ∃ (P674685 : List Nat) (F674686 : Nat → va_E) (q674683 : Nat) (f674684 : Nat → Int32), r = some (.ref q674683) ∧ w = va_pl P674685 F674686 ∧ rSub P674647 P674685 ∧ rFr [] P674647 F674648 F674686 ∧ F674686 q674649 = .inl (I .int, n674652, .inl f674651) ∧ F674686 q674683 = .inl (I .int, p674650.toInt.toNat, .inl f674684) ∧ q674683 ∈ P674685 ∧ q674683 ∉ P674647 ∧ dc ≤ 1 ∧ ds ≤ p674650.toInt.toNat ∧ (p674650.toInt.toNat : Int) = p674650.toInt ∧ glC f674651 f674684 (n674652 : Int) ∧ glB f674651 f674684 ∧ tr_RArrays_copyOf4 p674650 f674651 n674652 f674684
set_option maxRecDepth 100000 in
set_option maxHeartbeats 4000000 in
theorem cp_674655_Arrays_copyOf (l : Launch) (hl0 : l.stackTraces = false) (D : va_G) (I : FieldType → ClassId) (P674647 : List Nat) (F674648 : Nat → va_E) (q674649 : Nat) (p674650 : Int32) (f674651 : Nat → Int32) (n674652 : Nat) (hmq674649 : q674649 ∈ P674647) (heq674649 : F674648 q674649 = .inl (I .int, n674652, .inl f674651)) (bp674650 : gB p674650 32 32768) (x674653 : (n674652 : Int) < p674650.toInt) (x674654 : ((n674652 : Int) ≤ 16777216)) : CtA (gV D I) l yJ7_copyOf_59c91 cJ7_copyOf_59c91 3 (some (FieldType.array FieldType.int)) 1 18 1 p674650.toInt.toNat [.ref q674649, .int p674650] (va_pl P674647 F674648) (pp_674655_Arrays_copyOf D I P674647 F674648 q674649 p674650 f674651 n674652) gNA := by
  refine CtA_ofF hl0 (by decide +kernel) (Nat.le_of_ble_eq_true rfl) ?_
  refine G_iload_n 1 dr_cJ7_copyOf_59c91_0 rfl ?_
  refine G_aload_n 0 dr_cJ7_copyOf_59c91_1 rfl ?_
  refine Gp_alen (Int32.ofNat n674652) 0 hmq674649 heq674649 dr_cJ7_copyOf_59c91_2 rfl rfl (G_nam fun z674656 hz674656 => ?_)
  have ez674656 : z674656.toInt = (n674652 : Nat) := gI_ofM hz674656 (by omega)
  have bz674656 : gB z674656 0 16777216 := ⟨by omega, by omega⟩
  refine G_icmp_ne 14 dr_cJ7_copyOf_59c91_3 (by decide +kernel) (fun hc674657 => ?_) (fun hc => absurd (show False by have := gC_eq hc; omega) not_false)
  have r674659 : p674650.toInt ≠ z674656.toInt := gC_ne hc674657
  refine G_iload_n 1 dr_cJ7_copyOf_59c91_14 rfl ?_
  refine G_newa 0 (p674650.toInt.toNat, .inl (fun _ => 0)) dr_cJ7_copyOf_59c91_15 rfl rfl (by intro C h; cases h) wr_1_95 (fun _ => ga_int _ _) (g_n0 (by omega)) rfl (show p674650.toInt.toNat * 4 ≤ 536870912 by omega) (show 0 + 1 ≤ 1 by first | omega | decide) (show 0 + p674650.toInt.toNat ≤ p674650.toInt.toNat by first | omega | decide) (fun q674660 => Gp_in (fun P674661 F674662 hq674663 hP674664 e674665 n674666 => ?_))
  refine G_widen (cs' := 1) (sl' := p674650.toInt.toNat) (by omega) (by omega) ?_
  have he674667 : F674662 q674649 = .inl (I .int, n674652, .inl f674651) := (n674666 q674649 (fun h => hq674663 (h ▸ hmq674649))).trans heq674649
  have he674668 : F674662 q674660 = .inl (I .int, p674650.toInt.toNat, .inl (fun _ => 0)) := e674665
  have hm674669 : q674649 ∈ P674661 := (hP674664 q674649).mpr (Or.inl hmq674649)
  have hm674670 : q674660 ∈ P674661 := (hP674664 q674660).mpr (Or.inr rfl)
  have hq674671 : q674660 ∉ P674647 := fun z => hq674663 ((rSub_rf (P := P674647)) q674660 z)
  have hfr674672 : rFr [] P674647 F674648 F674662 := rFr_new (rSub_rf (P := P674647)) hq674663 (rFr_rf (W := []) (P := P674647) (F := F674648)) n674666
  have hsb674673 : rSub P674647 P674661 := rSub_new (rSub_rf (P := P674647)) hP674664
  refine G_astore_n (L' := [(2, .ref q674660), (0, .ref q674649), (1, .int p674650)]) dr_cJ7_copyOf_59c91_17 (Nat.le_of_ble_eq_true rfl) rfl ?_
  refine G_aload_n 1 dr_cJ7_copyOf_59c91_18 rfl ?_
  refine G_iconst 0 dr_cJ7_copyOf_59c91_19 (by decide +kernel) ?_
  refine G_aload_n 0 dr_cJ7_copyOf_59c91_20 rfl ?_
  refine G_iconst 0 dr_cJ7_copyOf_59c91_21 (by decide +kernel) ?_
  refine G_aload_n 1 dr_cJ7_copyOf_59c91_22 rfl ?_
  refine Gp_alen (Int32.ofNat n674652) 0 hm674669 he674667 dr_cJ7_copyOf_59c91_23 rfl rfl (G_nam fun z674674 hz674674 => ?_)
  have ez674674 : z674674.toInt = (n674652 : Nat) := gI_ofM hz674674 (by omega)
  have bz674674 : gB z674674 0 16777216 := ⟨by omega, by omega⟩
  refine G_iload_n 2 dr_cJ7_copyOf_59c91_24 rfl ?_
  refine G_mmin dr_cJ7_copyOf_59c91_25 wr_8_31 wr_3_227 wr_1_6 wr_3_228 (Nat.le_of_ble_eq_true rfl) (Nat.le_of_ble_eq_true rfl) (show 1 ≤ 1 by first | omega | decide) (show p674650.toInt.toNat ≤ p674650.toInt.toNat by first | omega | decide) (G_nam fun z674675 hz674675 => ?_)
  have ez674675 : z674674.toInt ≥ z674675.toInt ∧ p674650.toInt ≥ z674675.toInt ∧ (z674675.toInt = z674674.toInt ∨ z674675.toInt = p674650.toInt) := by have := gI_min hz674675; omega
  have bz674675 : gB z674675 0 32768 := ⟨by omega, by omega⟩
  refine Gp_copyp 0 hm674669 hm674670 he674667 he674668 dr_cJ7_copyOf_59c91_28 wr_8_32 wr_5_113 wr_5_112 wr_1_34 rfl rfl (fun _ => rfl) (by decide) (by decide) (by omega) (by have qa0 : Int32.toInt 0 = 0 := (by decide); omega) (by have qa0 : Int32.toInt 0 = 0 := (by decide); omega) (Nat.le_of_ble_eq_true rfl) (Nat.le_of_ble_eq_true rfl) (fun F674676 e674677 n674678 => ?_)
  obtain ⟨f674679, hf674679⟩ : ∃ z, z = va_cpy f674651 (fun _ => 0) (0 : Int32).toNatClampNeg (0 : Int32).toNatClampNeg z674675.toNatClampNeg := ⟨_, rfl⟩
  rw [← hf674679] at e674677
  have he674680 : F674676 q674649 = .inl (I .int, n674652, .inl f674651) := (n674678 q674649 (fun h => hq674671 (h ▸ hmq674649))).trans he674667
  have he674681 : F674676 q674660 = .inl (I .int, p674650.toInt.toNat, .inl f674679) := e674677
  have hfr674682 : rFr [] P674647 F674648 F674676 := rFr_newp hq674671 hfr674672 n674678
  refine G_aload_n 0 dr_cJ7_copyOf_59c91_31 rfl ?_
  exact G_aretA (FieldType.array FieldType.int) dr_cJ7_copyOf_59c91_32 rfl (by first | exact Or.inl ⟨_, rfl⟩ | exact Or.inr ⟨_, rfl⟩) (Or.inr ⟨_, rfl⟩) (Nat.le_of_ble_eq_true rfl) (show p674650.toInt.toNat ≤ p674650.toInt.toNat by omega) ⟨P674661, F674676, q674660, f674679, rfl, rfl, hsb674673, hfr674682, he674680, he674681, hm674670, hq674671, (Nat.le_of_ble_eq_true rfl), (by omega), (by omega), (glC_cpy hf674679 (by decide) (by decide) (by omega)), (glB_cpy hf674679), (fun R c1 => c1 z674656 z674674 z674675 f674679 ez674656 r674659 ez674674 ez674675 hf674679)⟩
/- tr_RReader_goal: a.0...at, a.0...kind, a.0...place, a.0...value, a.0...goalN, a.0.goalPlaces.#, a.0.goalPlaces.[], a.0.goals.#, a.0.goals.[] -/
def tr_RReader_goal (a0_n : Int32) (a0_at : Int32) (a0_kind : Int32) (a0_place : Int32) (a0_value : Int32) (a0_goalN : Int32) (a0_t_v : Nat → Int32) (p : Nat → Int32) (p2 : Nat) (p3 : Nat → Int32) (p4 : Nat) (o1 : Int32) (o2 : Int32) (o3 : Int32) (o4 : Int32) (o5 : Int32) (o6 : Nat) (o7 : Nat → Int32) (o8 : Nat) (o9 : Nat → Int32) (o10 : gTx) : Prop := ∀ R : (Int32) → (Int32) → (Int32) → (Int32) → (Int32) → (Nat) → (Nat → Int32) → (Nat) → (Nat → Int32) → (gTx) → Prop,
  (∀ (x1 : Int32) (x2 : Nat → Int32) (x3 : gTx) (x4 : Int32) (x5 : Int32) (x6 : Int32) (x7 : Int32) (x8 : Nat → Int32) (x9 : Int32), x1.toInt = (p4 : Nat) → a0_goalN.toInt ≠ x1.toInt → x2 = upd p a0_goalN.toNatClampNeg a0_place → gB x4 0 8192 → gB x5 0 6 → gB x6 0 8192 → tr_RReader_want2 (3 : Int32) a0_n a0_at a0_kind a0_value a0_t_v x4 x5 x6 x7 x3 → x8 = upd p3 a0_goalN.toNatClampNeg a0_value → x9.toInt = a0_goalN.toInt + 1 → R x4 x5 x6 x7 x9 p2 x2 p4 x8 x3) →
  (∀ (x1 : Int32) (x2 : Int32) (x3 : Nat → Int32) (x4 : Int32) (x5 : Nat → Int32) (x6 : Nat → Int32) (x7 : gTx) (x8 : Int32) (x9 : Int32) (x10 : Int32) (x11 : Int32) (x12 : Nat → Int32) (x13 : Int32), x1.toInt = (p4 : Nat) → a0_goalN.toInt = x1.toInt → x2.toInt = 2 * a0_goalN.toInt → tr_RArrays_copyOf4 x2 p3 p4 x3 → x4.toInt = 2 * a0_goalN.toInt → tr_RArrays_copyOf4 x4 p p2 x5 → x6 = upd x5 a0_goalN.toNatClampNeg a0_place → gB x8 0 8192 → gB x9 0 6 → gB x10 0 8192 → tr_RReader_want2 (3 : Int32) a0_n a0_at a0_kind a0_value a0_t_v x8 x9 x10 x11 x7 → x12 = upd x3 a0_goalN.toNatClampNeg a0_value → x13.toInt = a0_goalN.toInt + 1 → R x8 x9 x10 x11 x13 x4.toInt.toNat x6 x2.toInt.toNat x12 x7) →
  R o1 o2 o3 o4 o5 o6 o7 o8 o9 o10
/- tx_RReader_goal: throws -/
def tx_RReader_goal (a0_kind : Int32) (a0_goalN : Int32) (p : Nat → Int32) (p2 : Nat) (p3 : Nat → Int32) (p4 : Nat) : Prop := ∀ R : Prop,
  (∀ (x1 : Int32), x1.toInt = (p4 : Nat) → a0_goalN.toInt ≠ x1.toInt → tx_RReader_want2 (3 : Int32) a0_kind → R) →
  (∀ (x1 : Int32) (x2 : Int32) (x3 : Nat → Int32) (x4 : Int32) (x5 : Nat → Int32), x1.toInt = (p4 : Nat) → a0_goalN.toInt = x1.toInt → x2.toInt = 2 * a0_goalN.toInt → tr_RArrays_copyOf4 x2 p3 p4 x3 → x4.toInt = 2 * a0_goalN.toInt → tr_RArrays_copyOf4 x4 p p2 x5 → tx_RReader_want2 (3 : Int32) a0_kind → R) →
  R
abbrev ky_674565_Reader_goal : gKey := (cX14_goal, 2, "SpillForgeModel$Reader", (some FieldType.int), [], "goal", fun _ _ => True)
def pp_674565_Reader_goal (D : va_G) (I : FieldType → ClassId) (P674531 : List Nat) (F674532 : Nat → va_E) (q674533 : Nat) (q674534 : Nat) (q674535 : Nat) (q674536 : Nat) (p674537 : Int32) (p674538 : Int32) (p674539 : Int32) (p674540 : Int32) (p674541 : Int32) (p674542 : Int32) (qo674543 : Nat) (p674544 : Int32) (p674545 : Int32) (p674546 : Int32) (p674547 : Int32) (f674548 : Nat → Int32) (f674549 : Nat → Int32) (n674550 : Nat) (f674551 : Nat → Int32) (n674552 : Nat) (xt674553 : gTx) : Option Value → va_W → Nat → Nat → Prop := fun r w dc ds => ∃ (P674898 : List Nat) (F674899 : Nat → va_E) (o674886 : Int32) (o674887 : Int32) (o674888 : Int32) (o674889 : Int32) (q674890 : Nat) (o674891 : Int32) (q674892 : Nat) (n674893 : Nat) (f674894 : Nat → Int32) (q674895 : Nat) (n674896 : Nat) (f674897 : Nat → Int32) (xt674900 : gTx), r = some (.int p674541) ∧ w = va_pl P674898 F674899 ∧ rSub P674531 P674898 ∧ rFr [q674536, q674535, q674533] P674531 F674532 F674899 ∧ F674899 q674892 = .inl (I .int, n674893, .inl f674894) ∧ F674899 q674895 = .inl (I .int, n674896, .inl f674897) ∧ F674899 q674533 = .inr (19, [.ref q674534, .int p674537, .int o674886, .int o674887, .int o674888, .int o674889, .int p674539, .ref q674890, .int p674544, .int p674545, .int p674546, .ref q674892, .ref q674895, .int o674891]) ∧ F674899 q674534 = .inl (I .byte, 8192, .inl f674548) ∧ q674892 ∈ P674898 ∧ (q674892 = q674535 ∨ q674892 ∉ P674531) ∧ q674895 ∈ P674898 ∧ (q674895 = q674536 ∨ q674895 ∉ P674531) ∧ dc ≤ (16 * (o674886.toInt - p674538.toInt)).toNat + 2 ∧ ds ≤ (160 * (o674886.toInt - p674538.toInt)).toNat + 4 * (n674896 - n674552) ∧ gB o674886 0 8192 ∧ gB o674887 0 6 ∧ gB o674888 0 8192 ∧ gB o674891 1 1000000 ∧ p674538.toInt ≤ o674886.toInt ∧ prP o674887 p674538 o674886 ∧ o674886.toInt ≤ p674537.toInt ∧ tP I P674898 F674899 o674887 q674890 q674895 q674892 xt674900 ∧ vP o674887 o674889 ∧ vP 3 p674541 ∧ p674539.toInt = 3 ∧ (n674896 : Int) ≤ 2 * (n674552 : Int) ∧ q674895 ≠ q674892 ∧ glC f674551 f674897 p674547.toInt ∧ glL f674897 p674547 p674541 ∧ glP f674894 ∧ (n674896 : Int) = (n674893 : Int) ∧ o674891.toInt = p674547.toInt + 1 ∧ o674891.toInt ≤ (n674896 : Int) ∧ 16 ≤ (n674896 : Int) ∧ (n674896 : Int) ≤ 2 * o674891.toInt + 16 ∧ (n674552 : Int) ≤ (n674896 : Int) ∧ tr_RReader_goal p674537 p674538 p674539 p674540 p674541 p674547 f674548 f674549 n674550 f674551 n674552 o674886 o674887 o674888 o674889 o674891 n674893 f674894 n674896 f674897 xt674900
def xp_674565_Reader_goal (D : va_G) (I : FieldType → ClassId) (P674531 : List Nat) (F674532 : Nat → va_E) (q674533 : Nat) (q674534 : Nat) (q674535 : Nat) (q674536 : Nat) (p674537 : Int32) (p674538 : Int32) (p674539 : Int32) (p674540 : Int32) (p674541 : Int32) (p674542 : Int32) (qo674543 : Nat) (p674544 : Int32) (p674545 : Int32) (p674546 : Int32) (p674547 : Int32) (f674548 : Nat → Int32) (f674549 : Nat → Int32) (n674550 : Nat) (f674551 : Nat → Int32) (n674552 : Nat) (xt674553 : gTx) : String → Nat → va_W → Nat → Nat → Prop := fun E q w dc ds => ∃ (P674902 : List Nat) (F674901 : Nat → va_E), E = "SpillForgeModel$Wrong" ∧ w = va_pl P674902 F674901 ∧ rSub P674531 P674902 ∧ rFr [q674535, q674533] P674531 F674532 F674901 ∧ q ∈ P674902 ∧ q ∉ P674531 ∧ wrF F674901 q ∧ dc ≤ (16 * (p674537.toInt - p674538.toInt)).toNat + 3 ∧ ds ≤ (160 * (p674537.toInt - p674538.toInt)).toNat + 4 * n674552 + 7 ∧ tx_RReader_goal p674539 p674547 f674549 n674550 f674551 n674552
set_option maxRecDepth 100000 in
set_option maxHeartbeats 4000000 in
theorem cp_674565_Reader_goal (l : Launch) (hl0 : l.stackTraces = false) (D : va_G) (I : FieldType → ClassId) (P674531 : List Nat) (F674532 : Nat → va_E) (q674533 : Nat) (q674534 : Nat) (q674535 : Nat) (q674536 : Nat) (p674537 : Int32) (p674538 : Int32) (p674539 : Int32) (p674540 : Int32) (p674541 : Int32) (p674542 : Int32) (qo674543 : Nat) (p674544 : Int32) (p674545 : Int32) (p674546 : Int32) (p674547 : Int32) (f674548 : Nat → Int32) (f674549 : Nat → Int32) (n674550 : Nat) (f674551 : Nat → Int32) (n674552 : Nat) (xt674553 : gTx) (hmq674533 : q674533 ∈ P674531) (hmq674534 : q674534 ∈ P674531) (hmq674535 : q674535 ∈ P674531) (hmq674536 : q674536 ∈ P674531) (heq674533 : F674532 q674533 = .inr (19, [.ref q674534, .int p674537, .int p674538, .int p674539, .int p674540, .int p674541, .int p674542, .ref qo674543, .int p674544, .int p674545, .int p674546, .ref q674535, .ref q674536, .int p674547])) (heq674534 : F674532 q674534 = .inl (I .byte, 8192, .inl f674548)) (heq674535 : F674532 q674535 = .inl (I .int, n674550, .inl f674549)) (heq674536 : F674532 q674536 = .inl (I .int, n674552, .inl f674551)) (hneq674534q674535 : q674534 ≠ q674535) (hneq674534q674536 : q674534 ≠ q674536) (hneq674535q674536 : q674535 ≠ q674536) (bp674537 : gB p674537 0 8192) (bp674538 : gB p674538 0 8192) (bp674539 : gB p674539 0 6) (bp674540 : gB p674540 0 8192) (bp674542 : gB p674542 0 6) (bp674544 : gB p674544 (-1) 8192) (bp674545 : gB p674545 0 4) (bp674546 : gB p674546 0 1000000) (bp674547 : gB p674547 0 1000000) (bf674548 : gF f674548 (-128) 127) (x674554 : p674538.toInt ≤ p674537.toInt) (x674555 : tP I P674531 F674532 p674539 qo674543 q674536 q674535 xt674553) (x674556 : vP p674539 p674541) (x674557 : (n674552 : Int) = (n674550 : Int)) (x674558 : p674547.toInt ≤ (n674552 : Int)) (x674559 : 16 ≤ (n674552 : Int)) (x674560 : (n674552 : Int) ≤ 2 * p674547.toInt + 16) (x674561 : p674547.toInt ≤ 16000) (x674562 : glP f674549) (x674563 : ((n674550 : Int) ≤ 16777216)) (x674564 : ((n674552 : Int) ≤ 16777216)) : CtA (gV D I) l yX14_goal cX14_goal 2 (some FieldType.int) 9 199 ((16 * (p674537.toInt - p674538.toInt)).toNat + 3) ((160 * (p674537.toInt - p674538.toInt)).toNat + 4 * n674552 + 7) [.ref q674533] (va_pl P674531 F674532) (pp_674565_Reader_goal D I P674531 F674532 q674533 q674534 q674535 q674536 p674537 p674538 p674539 p674540 p674541 p674542 qo674543 p674544 p674545 p674546 p674547 f674548 f674549 n674550 f674551 n674552 xt674553) (xp_674565_Reader_goal D I P674531 F674532 q674533 q674534 q674535 q674536 p674537 p674538 p674539 p674540 p674541 p674542 qo674543 p674544 p674545 p674546 p674547 f674548 f674549 n674550 f674551 n674552 xt674553) := by
  refine CtA_of hl0 (by decide) (Nat.le_of_ble_eq_true rfl) ?_
  have bp674541 := gB_any p674541
  refine G_aload_n 0 dr_cX14_goal_0 rfl ?_
  refine Gp_get 13 hmq674533 heq674533 dr_cX14_goal_1 (gk_X14 D I) (Nat.le_of_ble_eq_true rfl) wr_9_51 rfl ?_
  refine G_aload_n 0 dr_cX14_goal_4 rfl ?_
  refine Gp_get 12 hmq674533 heq674533 dr_cX14_goal_5 (gk_X14 D I) (Nat.le_of_ble_eq_true rfl) wr_9_50 rfl ?_
  refine Gp_alen (Int32.ofNat n674552) 0 hmq674536 heq674536 dr_cX14_goal_8 rfl rfl (G_nam fun z674566 hz674566 => ?_)
  have ez674566 : z674566.toInt = (n674552 : Nat) := gI_ofM hz674566 (by omega)
  have bz674566 : gB z674566 0 16777216 := ⟨by omega, by omega⟩
  refine G_icmp_ne 46 dr_cX14_goal_9 (by decide +kernel) (fun hc674567 => ?_) (fun hc674567 => ?_)
  · have r674568 : p674547.toInt ≠ z674566.toInt := gC_ne hc674567
    refine G_aload_n 0 dr_cX14_goal_46 rfl ?_
    refine Gp_get 11 hmq674533 heq674533 dr_cX14_goal_47 (gk_X14 D I) (Nat.le_of_ble_eq_true rfl) wr_9_49 rfl ?_
    refine G_aload_n 0 dr_cX14_goal_50 rfl ?_
    refine Gp_get 13 hmq674533 heq674533 dr_cX14_goal_51 (gk_X14 D I) (Nat.le_of_ble_eq_true rfl) wr_9_51 rfl ?_
    refine G_aload_n 0 dr_cX14_goal_54 rfl ?_
    refine Gp_get 4 hmq674533 heq674533 dr_cX14_goal_55 (gk_X14 D I) (Nat.le_of_ble_eq_true rfl) wr_9_40 rfl ?_
    refine Gp_iast 0 hmq674535 heq674535 dr_cX14_goal_58 rfl (gB_inr (by omega) (by omega)) (fun F674569 e674570 n674571 => ?_)
    obtain ⟨f674572, hf674572⟩ : ∃ z, z = upd f674549 p674547.toNatClampNeg p674540 := ⟨_, rfl⟩
    rw [← hf674572] at e674570
    have he674573 : F674569 q674533 = .inr (19, [.ref q674534, .int p674537, .int p674538, .int p674539, .int p674540, .int p674541, .int p674542, .ref qo674543, .int p674544, .int p674545, .int p674546, .ref q674535, .ref q674536, .int p674547]) := (n674571 q674533 (rn_oa heq674533 heq674535)).trans heq674533
    have he674574 : F674569 q674534 = .inl (I .byte, 8192, .inl f674548) := (n674571 q674534 hneq674534q674535).trans heq674534
    have he674575 : F674569 q674536 = .inl (I .int, n674552, .inl f674551) := (n674571 q674536 (Ne.symm hneq674535q674536)).trans heq674536
    have he674576 : F674569 q674535 = .inl (I .int, n674550, .inl f674572) := e674570
    have hfr674577 : rFr [q674535] P674531 F674532 F674569 := rFr_put (rFr_rf (W := []) (P := P674531) (F := F674532)) n674571
    have tp674578 : tP I P674531 F674569 p674539 qo674543 q674536 q674535 xt674553 := tP_pa x674555 heq674535 (Or.inr rfl) n674571
    refine G_aload_n 0 dr_cX14_goal_59 rfl ?_
    refine G_iconst 3 dr_cX14_goal_60 (by decide +kernel) ?_
    refine Gw_callV (As := [.int 3]) (gV_ok D I) (cp_673763_Reader_want l hl0 D I P674531 F674569 q674533 q674534 3 p674537 p674538 p674539 p674540 p674541 p674542 qo674543 p674544 p674545 p674546 q674535 q674536 p674547 f674548 xt674553 hmq674533 hmq674534 he674573 he674574 (gB_w (gBl (show Int32.toInt 3 = 3 by decide)) (by decide) (by decide)) bp674537 bp674538 bp674539 bp674540 bp674542 bp674544 bp674545 bp674546 bp674547 bf674548 (by omega) hmq674536 hmq674535 tp674578 x674556) dr_cX14_goal_61 ⟨wr_9_93, wr_1_32, wr_9_96, by decide, rfl, (Nat.le_of_ble_eq_true rfl), (Nat.le_of_ble_eq_true rfl)⟩ wr_9_95 wr_p_80 hmq674533 he674573 rfl (show 0 + ((16 * (p674537.toInt - p674538.toInt)).toNat + 1) ≤ ((16 * (p674537.toInt - p674538.toInt)).toNat + 3) by first | omega | decide) (show 0 + ((160 * (p674537.toInt - p674538.toInt)).toNat + 7) ≤ ((160 * (p674537.toInt - p674538.toInt)).toNat + 4 * n674552 + 7) by first | omega | decide) (Nat.le_of_ble_eq_true rfl) (fun r674582 w674583 dc674579 ds674580 hp674581 => ?_) (fun _ qx674595 _ dc674593 ds674594 hx => by obtain ⟨P674591, F674592, rfl, rfl, hsb674584, hfr674585, hq674586, hqn674587, hwr674588, hdc674589, hds674590, ht674596⟩ := hx; exact GT_outA rfl (show 0 + dc674593 ≤ ((16 * (p674537.toInt - p674538.toInt)).toNat + 3) by omega) (show 0 + ds674594 ≤ ((160 * (p674537.toInt - p674538.toInt)).toNat + 4 * n674552 + 7) by omega) ⟨P674591, F674592, rfl, rfl, (rSub_tr (rSub_rf (P := P674531)) hsb674584), (rFr_v (show rFr [q674535] P674531 F674532 F674592 from rFr_call (rSub_rf (P := P674531)) hfr674577 hfr674585 (fun b hb hn => ⟨(nm_c (fun e => hn (e ▸ List.mem_cons_self)) nm_n), nm_n⟩)) (fun b hn => (nm_c (fun e => hn (e ▸ List.mem_cons_self)) nm_n))), hq674586, (fun z => hqn674587 ((rSub_rf (P := P674531)) _ z)), hwr674588, (by omega), (by omega), (fun R c1 c2 => c1 z674566 ez674566 r674568 ht674596)⟩)
    obtain ⟨P674611, F674612, o674597, o674598, o674599, o674600, q674601, xt674610, rfl, rfl, hsb674613, hfr674614, he674615, he674616, hdc, hds, bo674597, bo674598, bo674599, x674602, x674603, x674604, x674605, x674606, x674607, x674608, ht674609⟩ := hp674581
    have hm674617 : q674533 ∈ P674611 := hsb674613 q674533 hmq674533
    have hm674618 : q674534 ∈ P674611 := hsb674613 q674534 hmq674534
    have hm674619 : q674535 ∈ P674611 := hsb674613 q674535 hmq674535
    have hm674620 : q674536 ∈ P674611 := hsb674613 q674536 hmq674536
    have hsb674621 : rSub P674531 P674611 := rSub_tr (rSub_rf (P := P674531)) hsb674613
    have he674622 : F674612 q674535 = .inl (I .int, n674550, .inl f674572) := (hfr674614 q674535 hmq674535 (nm_c (rn_ao he674576 he674573) nm_n)).trans he674576
    have he674623 : F674612 q674536 = .inl (I .int, n674552, .inl f674551) := (hfr674614 q674536 hmq674536 (nm_c (rn_ao he674575 he674573) nm_n)).trans he674575
    have hfr674624 : rFr [q674535, q674533] P674531 F674532 F674612 := rFr_call (rSub_rf (P := P674531)) hfr674577 hfr674614 (fun b hb hn => ⟨(nm_c (fun e => hn (e ▸ List.mem_cons_self)) nm_n), (nm_c (fun e => hn (e ▸ (List.mem_cons_of_mem _ List.mem_cons_self))) nm_n)⟩)
    have bo674600 := gB_any o674600
    rw [show Int32.toInt 3 = 3 from by decide] at x674608
    change G _ _ _ _ _ _ _ (.int p674541 :: _) _ _ _
    refine G_widen (cs' := (16 * (o674597.toInt - p674538.toInt)).toNat) (sl' := (160 * (o674597.toInt - p674538.toInt)).toNat) (by omega) (by omega) ?_
    refine G_istore_n (L' := [(1, .int p674541), (0, .ref q674533)]) dr_cX14_goal_64 (Nat.le_of_ble_eq_true rfl) rfl ?_
    refine G_aload_n 1 dr_cX14_goal_65 rfl ?_
    refine Gp_get 12 hm674617 he674615 dr_cX14_goal_66 (gk_X14 D I) (Nat.le_of_ble_eq_true rfl) wr_9_50 rfl ?_
    refine G_aload_n 1 dr_cX14_goal_69 rfl ?_
    refine Gp_get 13 hm674617 he674615 dr_cX14_goal_70 (gk_X14 D I) (Nat.le_of_ble_eq_true rfl) wr_9_51 rfl ?_
    refine G_iload_n 0 dr_cX14_goal_73 rfl ?_
    refine Gp_iast 0 hm674620 he674623 dr_cX14_goal_74 rfl (gB_inr (by omega) (by omega)) (fun F674625 e674626 n674627 => ?_)
    obtain ⟨f674628, hf674628⟩ : ∃ z, z = upd f674551 p674547.toNatClampNeg p674541 := ⟨_, rfl⟩
    rw [← hf674628] at e674626
    have he674629 : F674625 q674535 = .inl (I .int, n674550, .inl f674572) := (n674627 q674535 hneq674535q674536).trans he674622
    have he674630 : F674625 q674533 = .inr (19, [.ref q674534, .int p674537, .int o674597, .int o674598, .int o674599, .int o674600, .int p674539, .ref q674601, .int p674544, .int p674545, .int p674546, .ref q674535, .ref q674536, .int p674547]) := (n674627 q674533 (rn_oa he674615 he674623)).trans he674615
    have he674631 : F674625 q674534 = .inl (I .byte, 8192, .inl f674548) := (n674627 q674534 hneq674534q674536).trans he674616
    have he674632 : F674625 q674536 = .inl (I .int, n674552, .inl f674628) := e674626
    have hfr674633 : rFr [q674536, q674535, q674533] P674531 F674532 F674625 := rFr_put hfr674624 n674627
    have tp674634 : tP I P674611 F674625 o674598 q674601 q674536 q674535 xt674610 := tP_pa x674605 he674623 (Or.inl rfl) n674627
    refine G_aload_n 1 dr_cX14_goal_75 rfl ?_
    refine G_dup dr_cX14_goal_76 rfl ?_
    refine Gp_get 13 hm674617 he674630 dr_cX14_goal_77 (gk_X14 D I) (Nat.le_of_ble_eq_true rfl) wr_9_51 rfl ?_
    refine G_iconst 1 dr_cX14_goal_80 (by decide +kernel) ?_
    refine G_iadd dr_cX14_goal_81 (G_nam fun z674635 hz674635 => ?_)
    have ez674635 : z674635.toInt = p674547.toInt + 1 := by rw [gI_add hz674635 bp674547 (gBl (show Int32.toInt 1 = 1 by decide)) (by decide) (by decide), show Int32.toInt 1 = 1 from by decide]
    have bz674635 : gB z674635 1 1000001 := gB_add (gI_add hz674635 bp674547 (gBl (show Int32.toInt 1 = 1 by decide)) (by decide) (by decide)) bp674547 (gBl (show Int32.toInt 1 = 1 by decide)) (by decide) (by decide)
    refine Gp_put 13 hm674617 he674630 dr_cX14_goal_82 (gk_X14 D I) (Nat.le_of_ble_eq_true rfl) wr_9_51 rfl rfl rfl (Nat.le_of_ble_eq_true rfl) (fun F674636 e674637 n674638 => ?_)
    have he674639 : F674636 q674535 = .inl (I .int, n674550, .inl f674572) := (n674638 q674535 (rn_ao he674629 he674630)).trans he674629
    have he674640 : F674636 q674536 = .inl (I .int, n674552, .inl f674628) := (n674638 q674536 (rn_ao he674632 he674630)).trans he674632
    have he674641 : F674636 q674534 = .inl (I .byte, 8192, .inl f674548) := (n674638 q674534 (rn_ao he674631 he674630)).trans he674631
    have he674642 : F674636 q674533 = .inr (19, [.ref q674534, .int p674537, .int o674597, .int o674598, .int o674599, .int o674600, .int p674539, .ref q674601, .int p674544, .int p674545, .int p674546, .ref q674535, .ref q674536, .int z674635]) := e674637
    have hfr674643 : rFr [q674536, q674535, q674533] P674531 F674532 F674636 := rFr_put' (List.mem_cons_of_mem _ (List.mem_cons_of_mem _ List.mem_cons_self)) hfr674633 n674638
    have tp674644 : tP I P674611 F674636 o674598 q674601 q674536 q674535 xt674610 := tP_put tp674634 he674630 (by decide) n674638
    refine G_iload_n 0 dr_cX14_goal_85 rfl ?_
    exact G_iretA dr_cX14_goal_86 rfl (show (16 * (o674597.toInt - p674538.toInt)).toNat ≤ ((16 * (p674537.toInt - p674538.toInt)).toNat + 3) by omega) (show (160 * (o674597.toInt - p674538.toInt)).toNat ≤ ((160 * (p674537.toInt - p674538.toInt)).toNat + 4 * n674552 + 7) by omega) ⟨P674611, F674636, o674597, o674598, o674599, o674600, q674601, z674635, q674535, n674550, f674572, q674536, n674552, f674628, xt674610, rfl, rfl, hsb674621, hfr674643, he674639, he674640, he674642, he674641, hm674619, (Or.inl rfl), hm674620, (Or.inl rfl), (by omega), (by omega), bo674597, bo674598, bo674599, ⟨by omega, by omega⟩, (by omega), x674603, (by omega), tp674644, x674606, x674607, (by omega), (by omega), (Ne.symm hneq674535q674536), (glC_u hf674628 glC_rf (by omega)), (glL_u hf674628), (glP_u hf674572 x674562 (by first | assumption | exact ⟨by omega, by omega⟩)), (by omega), (by omega), (by omega), (by omega), (by omega), (by omega), (fun R c1 c2 => c1 z674566 f674572 xt674610 o674597 o674598 o674599 o674600 f674628 z674635 ez674566 r674568 hf674572 bo674597 bo674598 bo674599 ht674609 hf674628 ez674635)⟩
  · have r674645 : p674547.toInt = z674566.toInt := gC_eq hc674567
    have bz674566' : gB z674566 0 1000000 := ⟨by omega, by omega⟩
    refine G_aload_n 0 dr_cX14_goal_12 rfl ?_
    refine G_aload_n 0 dr_cX14_goal_13 rfl ?_
    refine Gp_get 12 hmq674533 heq674533 dr_cX14_goal_14 (gk_X14 D I) (Nat.le_of_ble_eq_true rfl) wr_9_50 rfl ?_
    refine G_iconst 2 dr_cX14_goal_17 (by decide +kernel) ?_
    refine G_aload_n 0 dr_cX14_goal_18 rfl ?_
    refine Gp_get 13 hmq674533 heq674533 dr_cX14_goal_19 (gk_X14 D I) (Nat.le_of_ble_eq_true rfl) wr_9_51 rfl ?_
    refine G_imul dr_cX14_goal_22 (G_nam fun z674646 hz674646 => ?_)
    have ez674646 : z674646.toInt = 2 * p674547.toInt := by rw [gI_mul hz674646 (gBl (show Int32.toInt 2 = 2 by decide)) bp674547 (by decide) (by decide) (by decide), show Int32.toInt 2 = 2 from by decide]
    have bz674646 : gB z674646 0 2000000 := gB_mul hz674646 (gBl (show Int32.toInt 2 = 2 by decide)) bp674547 (by decide) (by decide) (by decide) (by decide)
    refine Gw_callS (As := [.ref q674536, .int z674646]) (gV_ok D I) (cp_674655_Arrays_copyOf l hl0 D I P674531 F674532 q674536 z674646 f674551 n674552 hmq674536 heq674536 ⟨by omega, by omega⟩ (by omega) (by omega)) dr_cX14_goal_23 ⟨wr_10_114, wr_1_30, wr_10_116, by decide, rfl, (Nat.le_of_ble_eq_true rfl), (Nat.le_of_ble_eq_true rfl)⟩ wr_10_115 (show 0 + 1 ≤ ((16 * (p674537.toInt - p674538.toInt)).toNat + 3) by first | omega | decide) (show 0 + z674646.toInt.toNat ≤ ((160 * (p674537.toInt - p674538.toInt)).toNat + 4 * n674552 + 7) by first | omega | decide) (Nat.le_of_ble_eq_true rfl) (fun r674690 w674691 dc674687 ds674688 hp674689 => ?_) (fun _ _ _ _ _ z => z.elim)
    obtain ⟨P674698, F674699, q674692, f674693, rfl, rfl, hsb674700, hfr674701, he674702, he674703, hm674704, hq674705, hdc, hds, x674694, x674695, x674696, ht674697⟩ := hp674689
    have hm674706 : q674533 ∈ P674698 := hsb674700 q674533 hmq674533
    have hm674707 : q674534 ∈ P674698 := hsb674700 q674534 hmq674534
    have hm674708 : q674535 ∈ P674698 := hsb674700 q674535 hmq674535
    have hm674709 : q674536 ∈ P674698 := hsb674700 q674536 hmq674536
    have hq674710 : q674692 ∉ P674531 := fun z => hq674705 ((rSub_rf (P := P674531)) q674692 z)
    have hsb674711 : rSub P674531 P674698 := rSub_tr (rSub_rf (P := P674531)) hsb674700
    have he674712 : F674699 q674533 = .inr (19, [.ref q674534, .int p674537, .int p674538, .int p674539, .int p674540, .int p674541, .int p674542, .ref qo674543, .int p674544, .int p674545, .int p674546, .ref q674535, .ref q674536, .int p674547]) := (hfr674701 q674533 hmq674533 nm_n).trans heq674533
    have he674713 : F674699 q674534 = .inl (I .byte, 8192, .inl f674548) := (hfr674701 q674534 hmq674534 nm_n).trans heq674534
    have he674714 : F674699 q674535 = .inl (I .int, n674550, .inl f674549) := (hfr674701 q674535 hmq674535 nm_n).trans heq674535
    have hfr674715 : rFr [] P674531 F674532 F674699 := rFr_call (rSub_rf (P := P674531)) (rFr_rf (W := []) (P := P674531) (F := F674532)) hfr674701 (fun b hb hn => ⟨nm_n, nm_n⟩)
    have tp674716 : tP I P674698 F674699 p674539 qo674543 q674536 q674535 xt674553 := tP_new x674555 hsb674700 (fun b hb => hfr674701 b hb (fun z => by cases z)) (Or.inl rfl) (Or.inl rfl)
    have tp674717 : tP I P674698 F674699 p674539 qo674543 q674692 q674535 xt674553 := tP_new x674555 hsb674700 (fun b hb => hfr674701 b hb (fun z => by cases z)) (Or.inr hq674705) (Or.inl rfl)
    have tp674718 : tP I P674698 F674699 p674539 qo674543 q674536 q674692 xt674553 := tP_new x674555 hsb674700 (fun b hb => hfr674701 b hb (fun z => by cases z)) (Or.inl rfl) (Or.inr hq674705)
    change G _ _ _ _ _ _ _ (.ref q674692 :: _) _ _ _
    refine G_widen (cs' := 1) (sl' := z674646.toInt.toNat) (by omega) (by omega) ?_
    refine Gp_put 12 hm674706 he674712 dr_cX14_goal_26 (gk_X14 D I) (Nat.le_of_ble_eq_true rfl) wr_9_50 rfl rfl rfl (Nat.le_of_ble_eq_true rfl) (fun F674719 e674720 n674721 => ?_)
    have he674722 : F674719 q674534 = .inl (I .byte, 8192, .inl f674548) := (n674721 q674534 (rn_ao he674713 he674712)).trans he674713
    have he674723 : F674719 q674535 = .inl (I .int, n674550, .inl f674549) := (n674721 q674535 (rn_ao he674714 he674712)).trans he674714
    have he674724 : F674719 q674536 = .inl (I .int, n674552, .inl f674551) := (n674721 q674536 (rn_ao he674702 he674712)).trans he674702
    have he674725 : F674719 q674692 = .inl (I .int, z674646.toInt.toNat, .inl f674693) := (n674721 q674692 (fun h => hq674710 (h ▸ hmq674533))).trans he674703
    have he674726 : F674719 q674533 = .inr (19, [.ref q674534, .int p674537, .int p674538, .int p674539, .int p674540, .int p674541, .int p674542, .ref qo674543, .int p674544, .int p674545, .int p674546, .ref q674535, .ref q674692, .int p674547]) := e674720
    have hfr674727 : rFr [q674533] P674531 F674532 F674719 := rFr_put hfr674715 n674721
    have tp674728 : tP I P674698 F674719 p674539 qo674543 q674536 q674535 xt674553 := tP_put tp674716 he674712 (by decide) n674721
    have tp674729 : tP I P674698 F674719 p674539 qo674543 q674692 q674535 xt674553 := tP_put tp674717 he674712 (by decide) n674721
    have tp674730 : tP I P674698 F674719 p674539 qo674543 q674536 q674692 xt674553 := tP_put tp674718 he674712 (by decide) n674721
    refine G_aload_n 0 dr_cX14_goal_29 rfl ?_
    refine G_aload_n 0 dr_cX14_goal_30 rfl ?_
    refine Gp_get 11 hm674706 he674726 dr_cX14_goal_31 (gk_X14 D I) (Nat.le_of_ble_eq_true rfl) wr_9_49 rfl ?_
    refine G_iconst 2 dr_cX14_goal_34 (by decide +kernel) ?_
    refine G_aload_n 0 dr_cX14_goal_35 rfl ?_
    refine Gp_get 13 hm674706 he674726 dr_cX14_goal_36 (gk_X14 D I) (Nat.le_of_ble_eq_true rfl) wr_9_51 rfl ?_
    refine G_imul dr_cX14_goal_39 (G_nam fun z674731 hz674731 => ?_)
    have ez674731 : z674731.toInt = 2 * p674547.toInt := by rw [gI_mul hz674731 (gBl (show Int32.toInt 2 = 2 by decide)) bp674547 (by decide) (by decide) (by decide), show Int32.toInt 2 = 2 from by decide]
    have bz674731 : gB z674731 0 2000000 := gB_mul hz674731 (gBl (show Int32.toInt 2 = 2 by decide)) bp674547 (by decide) (by decide) (by decide) (by decide)
    refine Gw_callS (As := [.ref q674535, .int z674731]) (gV_ok D I) (cp_674655_Arrays_copyOf l hl0 D I P674698 F674719 q674535 z674731 f674549 n674550 hm674708 he674723 ⟨by omega, by omega⟩ (by omega) (by omega)) dr_cX14_goal_40 ⟨wr_10_114, wr_1_30, wr_10_116, by decide, rfl, (Nat.le_of_ble_eq_true rfl), (Nat.le_of_ble_eq_true rfl)⟩ wr_10_115 (show 1 + 1 ≤ ((16 * (p674537.toInt - p674538.toInt)).toNat + 3) by first | omega | decide) (show z674646.toInt.toNat + z674731.toInt.toNat ≤ ((160 * (p674537.toInt - p674538.toInt)).toNat + 4 * n674552 + 7) by first | omega | decide) (Nat.le_of_ble_eq_true rfl) (fun r674735 w674736 dc674732 ds674733 hp674734 => ?_) (fun _ _ _ _ _ z => z.elim)
    obtain ⟨P674743, F674744, q674737, f674738, rfl, rfl, hsb674745, hfr674746, he674747, he674748, hm674749, hq674750, hdc, hds, x674739, x674740, x674741, ht674742⟩ := hp674734
    have hm674751 : q674533 ∈ P674743 := hsb674745 q674533 hm674706
    have hm674752 : q674534 ∈ P674743 := hsb674745 q674534 hm674707
    have hm674753 : q674535 ∈ P674743 := hsb674745 q674535 hm674708
    have hm674754 : q674536 ∈ P674743 := hsb674745 q674536 hm674709
    have hm674755 : q674692 ∈ P674743 := hsb674745 q674692 hm674704
    have hq674756 : q674737 ∉ P674531 := fun z => hq674750 (hsb674711 q674737 z)
    have hsb674757 : rSub P674531 P674743 := rSub_tr hsb674711 hsb674745
    have he674758 : F674744 q674533 = .inr (19, [.ref q674534, .int p674537, .int p674538, .int p674539, .int p674540, .int p674541, .int p674542, .ref qo674543, .int p674544, .int p674545, .int p674546, .ref q674535, .ref q674692, .int p674547]) := (hfr674746 q674533 hm674706 nm_n).trans he674726
    have he674759 : F674744 q674534 = .inl (I .byte, 8192, .inl f674548) := (hfr674746 q674534 hm674707 nm_n).trans he674722
    have he674760 : F674744 q674536 = .inl (I .int, n674552, .inl f674551) := (hfr674746 q674536 hm674709 nm_n).trans he674724
    have he674761 : F674744 q674692 = .inl (I .int, z674646.toInt.toNat, .inl f674693) := (hfr674746 q674692 hm674704 nm_n).trans he674725
    have hfr674762 : rFr [q674533] P674531 F674532 F674744 := rFr_call hsb674711 hfr674727 hfr674746 (fun b hb hn => ⟨(nm_c (fun e => hn (e ▸ List.mem_cons_self)) nm_n), nm_n⟩)
    have tp674763 : tP I P674743 F674744 p674539 qo674543 q674536 q674535 xt674553 := tP_new tp674728 hsb674745 (fun b hb => hfr674746 b hb (fun z => by cases z)) (Or.inl rfl) (Or.inl rfl)
    have tp674764 : tP I P674743 F674744 p674539 qo674543 q674737 q674535 xt674553 := tP_new tp674728 hsb674745 (fun b hb => hfr674746 b hb (fun z => by cases z)) (Or.inr hq674750) (Or.inl rfl)
    have tp674765 : tP I P674743 F674744 p674539 qo674543 q674536 q674737 xt674553 := tP_new tp674728 hsb674745 (fun b hb => hfr674746 b hb (fun z => by cases z)) (Or.inl rfl) (Or.inr hq674750)
    have tp674766 : tP I P674743 F674744 p674539 qo674543 q674692 q674535 xt674553 := tP_new tp674729 hsb674745 (fun b hb => hfr674746 b hb (fun z => by cases z)) (Or.inl rfl) (Or.inl rfl)
    have tp674767 : tP I P674743 F674744 p674539 qo674543 q674737 q674535 xt674553 := tP_new tp674729 hsb674745 (fun b hb => hfr674746 b hb (fun z => by cases z)) (Or.inr hq674750) (Or.inl rfl)
    have tp674768 : tP I P674743 F674744 p674539 qo674543 q674692 q674737 xt674553 := tP_new tp674729 hsb674745 (fun b hb => hfr674746 b hb (fun z => by cases z)) (Or.inl rfl) (Or.inr hq674750)
    have tp674769 : tP I P674743 F674744 p674539 qo674543 q674536 q674692 xt674553 := tP_new tp674730 hsb674745 (fun b hb => hfr674746 b hb (fun z => by cases z)) (Or.inl rfl) (Or.inl rfl)
    have tp674770 : tP I P674743 F674744 p674539 qo674543 q674737 q674692 xt674553 := tP_new tp674730 hsb674745 (fun b hb => hfr674746 b hb (fun z => by cases z)) (Or.inr hq674750) (Or.inl rfl)
    have tp674771 : tP I P674743 F674744 p674539 qo674543 q674536 q674737 xt674553 := tP_new tp674730 hsb674745 (fun b hb => hfr674746 b hb (fun z => by cases z)) (Or.inl rfl) (Or.inr hq674750)
    have hne674772 : q674692 ≠ q674737 := fun h => hq674750 (h ▸ hm674704)
    change G _ _ _ _ _ _ _ (.ref q674737 :: _) _ _ _
    refine G_widen (cs' := 2) (sl' := z674646.toInt.toNat + z674731.toInt.toNat) (by omega) (by omega) ?_
    refine Gp_put 11 hm674751 he674758 dr_cX14_goal_43 (gk_X14 D I) (Nat.le_of_ble_eq_true rfl) wr_9_49 rfl rfl rfl (Nat.le_of_ble_eq_true rfl) (fun F674773 e674774 n674775 => ?_)
    have he674776 : F674773 q674534 = .inl (I .byte, 8192, .inl f674548) := (n674775 q674534 (rn_ao he674759 he674758)).trans he674759
    have he674777 : F674773 q674536 = .inl (I .int, n674552, .inl f674551) := (n674775 q674536 (rn_ao he674760 he674758)).trans he674760
    have he674778 : F674773 q674692 = .inl (I .int, z674646.toInt.toNat, .inl f674693) := (n674775 q674692 (fun h => hq674710 (h ▸ hmq674533))).trans he674761
    have he674779 : F674773 q674535 = .inl (I .int, n674550, .inl f674549) := (n674775 q674535 (rn_ao he674747 he674758)).trans he674747
    have he674780 : F674773 q674737 = .inl (I .int, z674731.toInt.toNat, .inl f674738) := (n674775 q674737 (fun h => hq674756 (h ▸ hmq674533))).trans he674748
    have he674781 : F674773 q674533 = .inr (19, [.ref q674534, .int p674537, .int p674538, .int p674539, .int p674540, .int p674541, .int p674542, .ref qo674543, .int p674544, .int p674545, .int p674546, .ref q674737, .ref q674692, .int p674547]) := e674774
    have hfr674782 : rFr [q674533] P674531 F674532 F674773 := rFr_put' List.mem_cons_self hfr674762 n674775
    have tp674783 : tP I P674743 F674773 p674539 qo674543 q674536 q674535 xt674553 := tP_put tp674763 he674758 (by decide) n674775
    have tp674784 : tP I P674743 F674773 p674539 qo674543 q674737 q674535 xt674553 := tP_put tp674764 he674758 (by decide) n674775
    have tp674785 : tP I P674743 F674773 p674539 qo674543 q674536 q674737 xt674553 := tP_put tp674765 he674758 (by decide) n674775
    have tp674786 : tP I P674743 F674773 p674539 qo674543 q674692 q674535 xt674553 := tP_put tp674766 he674758 (by decide) n674775
    have tp674787 : tP I P674743 F674773 p674539 qo674543 q674737 q674535 xt674553 := tP_put tp674767 he674758 (by decide) n674775
    have tp674788 : tP I P674743 F674773 p674539 qo674543 q674692 q674737 xt674553 := tP_put tp674768 he674758 (by decide) n674775
    have tp674789 : tP I P674743 F674773 p674539 qo674543 q674536 q674692 xt674553 := tP_put tp674769 he674758 (by decide) n674775
    have tp674790 : tP I P674743 F674773 p674539 qo674543 q674737 q674692 xt674553 := tP_put tp674770 he674758 (by decide) n674775
    have tp674791 : tP I P674743 F674773 p674539 qo674543 q674536 q674737 xt674553 := tP_put tp674771 he674758 (by decide) n674775
    refine G_aload_n 0 dr_cX14_goal_46 rfl ?_
    refine Gp_get 11 hm674751 he674781 dr_cX14_goal_47 (gk_X14 D I) (Nat.le_of_ble_eq_true rfl) wr_9_49 rfl ?_
    refine G_aload_n 0 dr_cX14_goal_50 rfl ?_
    refine Gp_get 13 hm674751 he674781 dr_cX14_goal_51 (gk_X14 D I) (Nat.le_of_ble_eq_true rfl) wr_9_51 rfl ?_
    refine G_aload_n 0 dr_cX14_goal_54 rfl ?_
    refine Gp_get 4 hm674751 he674781 dr_cX14_goal_55 (gk_X14 D I) (Nat.le_of_ble_eq_true rfl) wr_9_40 rfl ?_
    refine Gp_iast 0 hm674749 he674780 dr_cX14_goal_58 rfl (gB_inr (by omega) (by omega)) (fun F674792 e674793 n674794 => ?_)
    obtain ⟨f674795, hf674795⟩ : ∃ z, z = upd f674738 p674547.toNatClampNeg p674540 := ⟨_, rfl⟩
    rw [← hf674795] at e674793
    have he674796 : F674792 q674533 = .inr (19, [.ref q674534, .int p674537, .int p674538, .int p674539, .int p674540, .int p674541, .int p674542, .ref qo674543, .int p674544, .int p674545, .int p674546, .ref q674737, .ref q674692, .int p674547]) := (n674794 q674533 (fun h => hq674756 (h ▸ hmq674533))).trans he674781
    have he674797 : F674792 q674534 = .inl (I .byte, 8192, .inl f674548) := (n674794 q674534 (fun h => hq674756 (h ▸ hmq674534))).trans he674776
    have he674798 : F674792 q674536 = .inl (I .int, n674552, .inl f674551) := (n674794 q674536 (fun h => hq674756 (h ▸ hmq674536))).trans he674777
    have he674799 : F674792 q674692 = .inl (I .int, z674646.toInt.toNat, .inl f674693) := (n674794 q674692 hne674772).trans he674778
    have he674800 : F674792 q674535 = .inl (I .int, n674550, .inl f674549) := (n674794 q674535 (fun h => hq674756 (h ▸ hmq674535))).trans he674779
    have he674801 : F674792 q674737 = .inl (I .int, z674731.toInt.toNat, .inl f674795) := e674793
    have hfr674802 : rFr [q674533] P674531 F674532 F674792 := rFr_newp hq674756 hfr674782 n674794
    have tp674804 : tP I P674743 F674792 p674539 qo674543 q674737 q674535 xt674553 := tP_pa tp674784 he674780 (Or.inl rfl) n674794
    have tp674805 : tP I P674743 F674792 p674539 qo674543 q674536 q674737 xt674553 := tP_pa tp674785 he674780 (Or.inr rfl) n674794
    have tp674807 : tP I P674743 F674792 p674539 qo674543 q674737 q674535 xt674553 := tP_pa tp674787 he674780 (Or.inl rfl) n674794
    have tp674808 : tP I P674743 F674792 p674539 qo674543 q674692 q674737 xt674553 := tP_pa tp674788 he674780 (Or.inr rfl) n674794
    have tp674810 : tP I P674743 F674792 p674539 qo674543 q674737 q674692 xt674553 := tP_pa tp674790 he674780 (Or.inl rfl) n674794
    have tp674811 : tP I P674743 F674792 p674539 qo674543 q674536 q674737 xt674553 := tP_pa tp674791 he674780 (Or.inr rfl) n674794
    refine G_aload_n 0 dr_cX14_goal_59 rfl ?_
    refine G_iconst 3 dr_cX14_goal_60 (by decide +kernel) ?_
    refine Gw_callV (As := [.int 3]) (gV_ok D I) (cp_673763_Reader_want l hl0 D I P674743 F674792 q674533 q674534 3 p674537 p674538 p674539 p674540 p674541 p674542 qo674543 p674544 p674545 p674546 q674737 q674692 p674547 f674548 xt674553 hm674751 hm674752 he674796 he674797 (gB_w (gBl (show Int32.toInt 3 = 3 by decide)) (by decide) (by decide)) bp674537 bp674538 bp674539 bp674540 bp674542 bp674544 bp674545 bp674546 bp674547 bf674548 (by omega) hm674755 hm674749 tp674808 x674556) dr_cX14_goal_61 ⟨wr_9_93, wr_1_32, wr_9_96, by decide, rfl, (Nat.le_of_ble_eq_true rfl), (Nat.le_of_ble_eq_true rfl)⟩ wr_9_95 wr_p_80 hm674751 he674796 rfl (show 2 + ((16 * (p674537.toInt - p674538.toInt)).toNat + 1) ≤ ((16 * (p674537.toInt - p674538.toInt)).toNat + 3) by first | omega | decide) (show z674646.toInt.toNat + z674731.toInt.toNat + ((160 * (p674537.toInt - p674538.toInt)).toNat + 7) ≤ ((160 * (p674537.toInt - p674538.toInt)).toNat + 4 * n674552 + 7) by first | omega | decide) (Nat.le_of_ble_eq_true rfl) (fun r674815 w674816 dc674812 ds674813 hp674814 => ?_) (fun _ qx674828 _ dc674826 ds674827 hx => by obtain ⟨P674824, F674825, rfl, rfl, hsb674817, hfr674818, hq674819, hqn674820, hwr674821, hdc674822, hds674823, ht674829⟩ := hx; exact GT_outA rfl (show 2 + dc674826 ≤ ((16 * (p674537.toInt - p674538.toInt)).toNat + 3) by omega) (show z674646.toInt.toNat + z674731.toInt.toNat + ds674827 ≤ ((160 * (p674537.toInt - p674538.toInt)).toNat + 4 * n674552 + 7) by omega) ⟨P674824, F674825, rfl, rfl, (rSub_tr hsb674757 hsb674817), (rFr_v (show rFr [q674533] P674531 F674532 F674825 from rFr_call hsb674757 hfr674802 hfr674818 (fun b hb hn => ⟨(nm_c (fun e => hn (e ▸ List.mem_cons_self)) nm_n), nm_n⟩)) (fun b hn => (nm_c (fun e => hn (e ▸ (List.mem_cons_of_mem _ List.mem_cons_self))) nm_n))), hq674819, (fun z => hqn674820 (hsb674757 _ z)), hwr674821, (by omega), (by omega), (fun R c1 c2 => c2 z674566 z674646 f674693 z674731 f674738 ez674566 r674645 ez674646 ht674697 ez674731 ht674742 ht674829)⟩)
    obtain ⟨P674844, F674845, o674830, o674831, o674832, o674833, q674834, xt674843, rfl, rfl, hsb674846, hfr674847, he674848, he674849, hdc, hds, bo674830, bo674831, bo674832, x674835, x674836, x674837, x674838, x674839, x674840, x674841, ht674842⟩ := hp674814
    have hm674850 : q674533 ∈ P674844 := hsb674846 q674533 hm674751
    have hm674851 : q674534 ∈ P674844 := hsb674846 q674534 hm674752
    have hm674852 : q674535 ∈ P674844 := hsb674846 q674535 hm674753
    have hm674853 : q674536 ∈ P674844 := hsb674846 q674536 hm674754
    have hm674854 : q674692 ∈ P674844 := hsb674846 q674692 hm674755
    have hm674855 : q674737 ∈ P674844 := hsb674846 q674737 hm674749
    have hsb674856 : rSub P674531 P674844 := rSub_tr hsb674757 hsb674846
    have he674857 : F674845 q674536 = .inl (I .int, n674552, .inl f674551) := (hfr674847 q674536 hm674754 (nm_c (rn_ao he674798 he674796) nm_n)).trans he674798
    have he674858 : F674845 q674692 = .inl (I .int, z674646.toInt.toNat, .inl f674693) := (hfr674847 q674692 hm674755 (nm_c (fun h => hq674710 (h ▸ hmq674533)) nm_n)).trans he674799
    have he674859 : F674845 q674535 = .inl (I .int, n674550, .inl f674549) := (hfr674847 q674535 hm674753 (nm_c (rn_ao he674800 he674796) nm_n)).trans he674800
    have he674860 : F674845 q674737 = .inl (I .int, z674731.toInt.toNat, .inl f674795) := (hfr674847 q674737 hm674749 (nm_c (fun h => hq674756 (h ▸ hmq674533)) nm_n)).trans he674801
    have hfr674861 : rFr [q674533] P674531 F674532 F674845 := rFr_call hsb674757 hfr674802 hfr674847 (fun b hb hn => ⟨(nm_c (fun e => hn (e ▸ List.mem_cons_self)) nm_n), (nm_c (fun e => hn (e ▸ List.mem_cons_self)) nm_n)⟩)
    have bo674833 := gB_any o674833
    rw [show Int32.toInt 3 = 3 from by decide] at x674841
    change G _ _ _ _ _ _ _ (.int p674541 :: _) _ _ _
    refine G_widen (cs' := 2 + ((16 * (o674830.toInt - p674538.toInt)).toNat)) (sl' := z674646.toInt.toNat + z674731.toInt.toNat + ((160 * (o674830.toInt - p674538.toInt)).toNat)) (by omega) (by omega) ?_
    refine G_istore_n (L' := [(1, .int p674541), (0, .ref q674533)]) dr_cX14_goal_64 (Nat.le_of_ble_eq_true rfl) rfl ?_
    refine G_aload_n 1 dr_cX14_goal_65 rfl ?_
    refine Gp_get 12 hm674850 he674848 dr_cX14_goal_66 (gk_X14 D I) (Nat.le_of_ble_eq_true rfl) wr_9_50 rfl ?_
    refine G_aload_n 1 dr_cX14_goal_69 rfl ?_
    refine Gp_get 13 hm674850 he674848 dr_cX14_goal_70 (gk_X14 D I) (Nat.le_of_ble_eq_true rfl) wr_9_51 rfl ?_
    refine G_iload_n 0 dr_cX14_goal_73 rfl ?_
    refine Gp_iast 0 hm674854 he674858 dr_cX14_goal_74 rfl (gB_inr (by omega) (by omega)) (fun F674862 e674863 n674864 => ?_)
    obtain ⟨f674865, hf674865⟩ : ∃ z, z = upd f674693 p674547.toNatClampNeg p674541 := ⟨_, rfl⟩
    rw [← hf674865] at e674863
    have he674866 : F674862 q674536 = .inl (I .int, n674552, .inl f674551) := (n674864 q674536 (fun h => hq674710 (h ▸ hmq674536))).trans he674857
    have he674867 : F674862 q674535 = .inl (I .int, n674550, .inl f674549) := (n674864 q674535 (fun h => hq674710 (h ▸ hmq674535))).trans he674859
    have he674868 : F674862 q674737 = .inl (I .int, z674731.toInt.toNat, .inl f674795) := (n674864 q674737 (Ne.symm hne674772)).trans he674860
    have he674869 : F674862 q674533 = .inr (19, [.ref q674534, .int p674537, .int o674830, .int o674831, .int o674832, .int o674833, .int p674539, .ref q674834, .int p674544, .int p674545, .int p674546, .ref q674737, .ref q674692, .int p674547]) := (n674864 q674533 (fun h => hq674710 (h ▸ hmq674533))).trans he674848
    have he674870 : F674862 q674534 = .inl (I .byte, 8192, .inl f674548) := (n674864 q674534 (fun h => hq674710 (h ▸ hmq674534))).trans he674849
    have he674871 : F674862 q674692 = .inl (I .int, z674646.toInt.toNat, .inl f674865) := e674863
    have hfr674872 : rFr [q674533] P674531 F674532 F674862 := rFr_newp hq674710 hfr674861 n674864
    have tp674873 : tP I P674844 F674862 o674831 q674834 q674692 q674737 xt674843 := tP_pa x674838 he674858 (Or.inl rfl) n674864
    refine G_aload_n 1 dr_cX14_goal_75 rfl ?_
    refine G_dup dr_cX14_goal_76 rfl ?_
    refine Gp_get 13 hm674850 he674869 dr_cX14_goal_77 (gk_X14 D I) (Nat.le_of_ble_eq_true rfl) wr_9_51 rfl ?_
    refine G_iconst 1 dr_cX14_goal_80 (by decide +kernel) ?_
    refine G_iadd dr_cX14_goal_81 (G_nam fun z674874 hz674874 => ?_)
    have ez674874 : z674874.toInt = p674547.toInt + 1 := by rw [gI_add hz674874 bp674547 (gBl (show Int32.toInt 1 = 1 by decide)) (by decide) (by decide), show Int32.toInt 1 = 1 from by decide]
    have bz674874 : gB z674874 1 1000001 := gB_add (gI_add hz674874 bp674547 (gBl (show Int32.toInt 1 = 1 by decide)) (by decide) (by decide)) bp674547 (gBl (show Int32.toInt 1 = 1 by decide)) (by decide) (by decide)
    refine Gp_put 13 hm674850 he674869 dr_cX14_goal_82 (gk_X14 D I) (Nat.le_of_ble_eq_true rfl) wr_9_51 rfl rfl rfl (Nat.le_of_ble_eq_true rfl) (fun F674875 e674876 n674877 => ?_)
    have he674878 : F674875 q674536 = .inl (I .int, n674552, .inl f674551) := (n674877 q674536 (rn_ao he674866 he674869)).trans he674866
    have he674879 : F674875 q674692 = .inl (I .int, z674646.toInt.toNat, .inl f674865) := (n674877 q674692 (fun h => hq674710 (h ▸ hmq674533))).trans he674871
    have he674880 : F674875 q674535 = .inl (I .int, n674550, .inl f674549) := (n674877 q674535 (rn_ao he674867 he674869)).trans he674867
    have he674881 : F674875 q674737 = .inl (I .int, z674731.toInt.toNat, .inl f674795) := (n674877 q674737 (fun h => hq674756 (h ▸ hmq674533))).trans he674868
    have he674882 : F674875 q674534 = .inl (I .byte, 8192, .inl f674548) := (n674877 q674534 (rn_ao he674870 he674869)).trans he674870
    have he674883 : F674875 q674533 = .inr (19, [.ref q674534, .int p674537, .int o674830, .int o674831, .int o674832, .int o674833, .int p674539, .ref q674834, .int p674544, .int p674545, .int p674546, .ref q674737, .ref q674692, .int z674874]) := e674876
    have hfr674884 : rFr [q674533] P674531 F674532 F674875 := rFr_put' List.mem_cons_self hfr674872 n674877
    have tp674885 : tP I P674844 F674875 o674831 q674834 q674692 q674737 xt674843 := tP_put tp674873 he674869 (by decide) n674877
    refine G_iload_n 0 dr_cX14_goal_85 rfl ?_
    exact G_iretA dr_cX14_goal_86 rfl (show 2 + ((16 * (o674830.toInt - p674538.toInt)).toNat) ≤ ((16 * (p674537.toInt - p674538.toInt)).toNat + 3) by omega) (show z674646.toInt.toNat + z674731.toInt.toNat + ((160 * (o674830.toInt - p674538.toInt)).toNat) ≤ ((160 * (p674537.toInt - p674538.toInt)).toNat + 4 * n674552 + 7) by omega) ⟨P674844, F674875, o674830, o674831, o674832, o674833, q674834, z674874, q674737, z674731.toInt.toNat, f674795, q674692, z674646.toInt.toNat, f674865, xt674843, rfl, rfl, hsb674856, (rFr_v hfr674884 (fun b hn => (nm_c (fun e => hn (e ▸ (List.mem_cons_of_mem _ (List.mem_cons_of_mem _ List.mem_cons_self)))) nm_n))), he674881, he674879, he674883, he674882, hm674855, (Or.inr hq674756), hm674854, (Or.inr hq674710), (by omega), (by omega), bo674830, bo674831, bo674832, ⟨by omega, by omega⟩, (by omega), x674836, (by omega), tp674885, x674839, x674840, (by omega), (by omega), hne674772, (glC_u hf674865 (glC_tr glC_rf x674695 (show p674547.toInt ≤ p674547.toInt from Int.le_refl _) (by omega)) (by omega)), (glL_u hf674865), (glP_u hf674795 (glP_b x674741 x674562) (by first | assumption | exact ⟨by omega, by omega⟩)), (by omega), (by omega), (by omega), (by omega), (by omega), (by omega), (fun R c1 c2 => c2 z674566 z674646 f674693 z674731 f674738 f674795 xt674843 o674830 o674831 o674832 o674833 f674865 z674874 ez674566 r674645 ez674646 ht674697 ez674731 ht674742 hf674795 bo674830 bo674831 bo674832 ht674842 hf674865 ez674874)⟩
/- tr_RReader_row: a.0...at, a.0...kind, a.0...place, a.0...value, a.0...before, a.1...op, a.1...t, a.1...a, a.1...b, a.1...regA, a.1...regB -/
def tr_RReader_row (a0_n : Int32) (a0_at : Int32) (a0_kind : Int32) (a0_value : Int32) (a1_t : Int32) (a1_a : Int32) (a1_b : Int32) (a1_regA : Int32) (a1_regB : Int32) (a0_t_v : Nat → Int32) (xt : gTx) (o1 : Int32) (o2 : Int32) (o3 : Int32) (o4 : Int32) (o5 : Int32) (o6 : Int32) (o7 : Int32) (o8 : Int32) (o9 : Int32) (o10 : Int32) (o11 : Int32) (o12 : gTx) : Prop := ∀ R : (Int32) → (Int32) → (Int32) → (Int32) → (Int32) → (Int32) → (Int32) → (Int32) → (Int32) → (Int32) → (Int32) → (gTx) → Prop,
  (∀ (x1 : Int32) (x2 : gTx) (x3 : Int32) (x4 : Int32) (x5 : Int32) (x6 : Int32) (x7 : gTx) (x8 : Int32) (x9 : Int32) (x10 : Int32) (x11 : Int32) (x12 : Int32) (x13 : gTx) (x14 : Int32) (x15 : Int32) (x16 : Int32) (x17 : Int32) (x18 : Int32) (x19 : Int32) (x20 : Int32) (x21 : Int32), gB x1 0 1 → tr_RReader_is sb_39 a0_kind xt x1 → x1.toInt = 0 → gB x3 0 8192 → gB x4 0 6 → gB x5 0 8192 → tr_RReader_want2 (2 : Int32) a0_n a0_at a0_kind a0_value a0_t_v x3 x4 x5 x6 x2 → gB x8 0 8192 → gB x9 0 6 → gB x10 0 8192 → tr_RReader_want sb_40 a0_n x3 x4 x6 a0_t_v x2 x8 x9 x10 x11 x7 → gB x12 0 1 → tr_RReader_is sb_41 x9 x7 x12 → x12.toInt = 0 → gB x14 0 8192 → gB x15 0 6 → gB x16 0 8192 → gB x20 0 1 → gB x21 0 1 → tr_RReader_operand (0 : Int32) a0_n x8 x9 x11 a1_a a1_b a1_regA a1_regB a0_t_v x14 x15 x16 x17 x18 x19 x20 x21 x13 → x15.toInt ≠ 5 → R x14 x15 x16 x17 x9 (0 : Int32) a0_value x18 x19 x20 x21 x13) →
  (∀ (x1 : Int32) (x2 : gTx) (x3 : Int32) (x4 : Int32) (x5 : Int32) (x6 : Int32) (x7 : gTx) (x8 : Int32) (x9 : Int32) (x10 : Int32) (x11 : Int32) (x12 : Int32) (x13 : gTx) (x14 : Int32) (x15 : Int32) (x16 : Int32) (x17 : Int32) (x18 : Int32) (x19 : Int32) (x20 : Int32) (x21 : Int32) (x22 : Int32) (x23 : gTx) (x24 : Int32) (x25 : Int32) (x26 : Int32) (x27 : Int32) (x28 : gTx) (x29 : Int32) (x30 : Int32) (x31 : Int32) (x32 : Int32) (x33 : Int32) (x34 : Int32) (x35 : Int32) (x36 : Int32), gB x1 0 1 → tr_RReader_is sb_39 a0_kind xt x1 → x1.toInt = 0 → gB x3 0 8192 → gB x4 0 6 → gB x5 0 8192 → tr_RReader_want2 (2 : Int32) a0_n a0_at a0_kind a0_value a0_t_v x3 x4 x5 x6 x2 → gB x8 0 8192 → gB x9 0 6 → gB x10 0 8192 → tr_RReader_want sb_40 a0_n x3 x4 x6 a0_t_v x2 x8 x9 x10 x11 x7 → gB x12 0 1 → tr_RReader_is sb_41 x9 x7 x12 → x12.toInt = 0 → gB x14 0 8192 → gB x15 0 6 → gB x16 0 8192 → gB x20 0 1 → gB x21 0 1 → tr_RReader_operand (0 : Int32) a0_n x8 x9 x11 a1_a a1_b a1_regA a1_regB a0_t_v x14 x15 x16 x17 x18 x19 x20 x21 x13 → x15.toInt = 5 → gB x22 0 14 → tr_RModel_operation x13.2 x13.1 x22 → x22.toInt ≠ 0 → gB x24 0 8192 → gB x25 0 6 → gB x26 0 8192 → tr_RReader_next a0_n x14 x15 x17 a0_t_v x24 x25 x26 x27 x23 → gB x29 0 8192 → gB x30 0 6 → gB x31 0 8192 → gB x35 0 1 → gB x36 0 1 → tr_RReader_operand (1 : Int32) a0_n x24 x25 x27 x18 x19 x20 x21 a0_t_v x29 x30 x31 x32 x33 x34 x35 x36 x28 → R x29 x30 x31 x32 x25 x22 a0_value x33 x34 x35 x36 x28) →
  (∀ (x1 : Int32) (x2 : gTx) (x3 : Int32) (x4 : Int32) (x5 : Int32) (x6 : Int32) (x7 : gTx) (x8 : Int32) (x9 : Int32) (x10 : Int32) (x11 : Int32) (x12 : Int32) (x13 : gTx) (x14 : Int32) (x15 : Int32) (x16 : Int32) (x17 : Int32) (x18 : Int32) (x19 : Int32) (x20 : Int32) (x21 : Int32) (x22 : Int32), gB x1 0 1 → tr_RReader_is sb_39 a0_kind xt x1 → x1.toInt = 0 → gB x3 0 8192 → gB x4 0 6 → gB x5 0 8192 → tr_RReader_want2 (2 : Int32) a0_n a0_at a0_kind a0_value a0_t_v x3 x4 x5 x6 x2 → gB x8 0 8192 → gB x9 0 6 → gB x10 0 8192 → tr_RReader_want sb_40 a0_n x3 x4 x6 a0_t_v x2 x8 x9 x10 x11 x7 → gB x12 0 1 → tr_RReader_is sb_41 x9 x7 x12 → x12.toInt = 0 → gB x14 0 8192 → gB x15 0 6 → gB x16 0 8192 → gB x20 0 1 → gB x21 0 1 → tr_RReader_operand (0 : Int32) a0_n x8 x9 x11 a1_a a1_b a1_regA a1_regB a0_t_v x14 x15 x16 x17 x18 x19 x20 x21 x13 → x15.toInt = 5 → gB x22 0 14 → tr_RModel_operation x13.2 x13.1 x22 → x22.toInt = 0 → R x14 x15 x16 x17 x9 x22 a0_value x18 x19 x20 x21 (x13.1, x13.2)) →
  (∀ (x1 : Int32) (x2 : gTx) (x3 : Int32) (x4 : Int32) (x5 : Int32) (x6 : Int32) (x7 : gTx) (x8 : Int32) (x9 : Int32) (x10 : Int32) (x11 : Int32) (x12 : Int32) (x13 : gTx) (x14 : Int32) (x15 : Int32) (x16 : Int32) (x17 : Int32), gB x1 0 1 → tr_RReader_is sb_39 a0_kind xt x1 → x1.toInt = 0 → gB x3 0 8192 → gB x4 0 6 → gB x5 0 8192 → tr_RReader_want2 (2 : Int32) a0_n a0_at a0_kind a0_value a0_t_v x3 x4 x5 x6 x2 → gB x8 0 8192 → gB x9 0 6 → gB x10 0 8192 → tr_RReader_want sb_40 a0_n x3 x4 x6 a0_t_v x2 x8 x9 x10 x11 x7 → gB x12 0 1 → tr_RReader_is sb_41 x9 x7 x12 → x12.toInt ≠ 0 → gB x14 0 8192 → gB x15 0 6 → gB x16 0 8192 → tr_RReader_next a0_n x8 x9 x11 a0_t_v x14 x15 x16 x17 x13 → R x14 x15 x16 x17 x9 (20 : Int32) a0_value a1_a a1_b a1_regA a1_regB x13) →
  (∀ (x1 : Int32) (x2 : gTx) (x3 : Int32) (x4 : Int32) (x5 : Int32) (x6 : Int32) (x7 : gTx) (x8 : Int32) (x9 : Int32) (x10 : Int32) (x11 : Int32) (x12 : Int32) (x13 : Int32) (x14 : Int32) (x15 : Int32), gB x1 0 1 → tr_RReader_is sb_39 a0_kind xt x1 → x1.toInt ≠ 0 → gB x3 0 8192 → gB x4 0 6 → gB x5 0 8192 → tr_RReader_next a0_n a0_at a0_kind a0_value a0_t_v x3 x4 x5 x6 x2 → gB x8 0 8192 → gB x9 0 6 → gB x10 0 8192 → gB x14 0 1 → gB x15 0 1 → tr_RReader_operand (0 : Int32) a0_n x3 x4 x6 a1_a a1_b a1_regA a1_regB a0_t_v x8 x9 x10 x11 x12 x13 x14 x15 x7 → R x8 x9 x10 x11 x4 (22 : Int32) a1_t x12 x13 x14 x15 x7) →
  R o1 o2 o3 o4 o5 o6 o7 o8 o9 o10 o11 o12
/- tx_RReader_row: throws -/
def tx_RReader_row (a0_n : Int32) (a0_at : Int32) (a0_kind : Int32) (a0_value : Int32) (a1_a : Int32) (a1_b : Int32) (a1_regA : Int32) (a1_regB : Int32) (a0_t_v : Nat → Int32) (xt : gTx) : Prop := ∀ R : Prop,
  (∀ (x1 : Int32), gB x1 0 1 → tr_RReader_is sb_39 a0_kind xt x1 → x1.toInt = 0 → tx_RReader_want2 (2 : Int32) a0_kind → R) →
  (∀ (x1 : Int32) (x2 : gTx) (x3 : Int32) (x4 : Int32) (x5 : Int32) (x6 : Int32), gB x1 0 1 → tr_RReader_is sb_39 a0_kind xt x1 → x1.toInt = 0 → gB x3 0 8192 → gB x4 0 6 → gB x5 0 8192 → tr_RReader_want2 (2 : Int32) a0_n a0_at a0_kind a0_value a0_t_v x3 x4 x5 x6 x2 → tx_RReader_want sb_40 x4 x2 → R) →
  (∀ (x1 : Int32) (x2 : gTx) (x3 : Int32) (x4 : Int32) (x5 : Int32) (x6 : Int32) (x7 : gTx) (x8 : Int32) (x9 : Int32) (x10 : Int32) (x11 : Int32) (x12 : Int32), gB x1 0 1 → tr_RReader_is sb_39 a0_kind xt x1 → x1.toInt = 0 → gB x3 0 8192 → gB x4 0 6 → gB x5 0 8192 → tr_RReader_want2 (2 : Int32) a0_n a0_at a0_kind a0_value a0_t_v x3 x4 x5 x6 x2 → gB x8 0 8192 → gB x9 0 6 → gB x10 0 8192 → tr_RReader_want sb_40 a0_n x3 x4 x6 a0_t_v x2 x8 x9 x10 x11 x7 → gB x12 0 1 → tr_RReader_is sb_41 x9 x7 x12 → x12.toInt = 0 → tx_RReader_operand x9 → R) →
  (∀ (x1 : Int32) (x2 : gTx) (x3 : Int32) (x4 : Int32) (x5 : Int32) (x6 : Int32) (x7 : gTx) (x8 : Int32) (x9 : Int32) (x10 : Int32) (x11 : Int32) (x12 : Int32) (x13 : gTx) (x14 : Int32) (x15 : Int32) (x16 : Int32) (x17 : Int32) (x18 : Int32) (x19 : Int32) (x20 : Int32) (x21 : Int32) (x22 : Int32) (x23 : gTx) (x24 : Int32) (x25 : Int32) (x26 : Int32) (x27 : Int32), gB x1 0 1 → tr_RReader_is sb_39 a0_kind xt x1 → x1.toInt = 0 → gB x3 0 8192 → gB x4 0 6 → gB x5 0 8192 → tr_RReader_want2 (2 : Int32) a0_n a0_at a0_kind a0_value a0_t_v x3 x4 x5 x6 x2 → gB x8 0 8192 → gB x9 0 6 → gB x10 0 8192 → tr_RReader_want sb_40 a0_n x3 x4 x6 a0_t_v x2 x8 x9 x10 x11 x7 → gB x12 0 1 → tr_RReader_is sb_41 x9 x7 x12 → x12.toInt = 0 → gB x14 0 8192 → gB x15 0 6 → gB x16 0 8192 → gB x20 0 1 → gB x21 0 1 → tr_RReader_operand (0 : Int32) a0_n x8 x9 x11 a1_a a1_b a1_regA a1_regB a0_t_v x14 x15 x16 x17 x18 x19 x20 x21 x13 → x15.toInt = 5 → gB x22 0 14 → tr_RModel_operation x13.2 x13.1 x22 → x22.toInt ≠ 0 → gB x24 0 8192 → gB x25 0 6 → gB x26 0 8192 → tr_RReader_next a0_n x14 x15 x17 a0_t_v x24 x25 x26 x27 x23 → tx_RReader_operand x25 → R) →
  (∀ (x1 : Int32) (x2 : gTx) (x3 : Int32) (x4 : Int32) (x5 : Int32) (x6 : Int32), gB x1 0 1 → tr_RReader_is sb_39 a0_kind xt x1 → x1.toInt ≠ 0 → gB x3 0 8192 → gB x4 0 6 → gB x5 0 8192 → tr_RReader_next a0_n a0_at a0_kind a0_value a0_t_v x3 x4 x5 x6 x2 → tx_RReader_operand x4 → R) →
  R
abbrev ky_674938_Reader_row : gKey := (cX14_row, 2, "SpillForgeModel$Reader", none, [], "row", fun _ _ => True)
def pp_674938_Reader_row (D : va_G) (I : FieldType → ClassId) (P674903 : List Nat) (F674904 : Nat → va_E) (q674905 : Nat) (q674906 : Nat) (q674907 : Nat) (p674908 : Int32) (p674909 : Int32) (p674910 : Int32) (p674911 : Int32) (p674912 : Int32) (p674913 : Int32) (qo674914 : Nat) (p674915 : Int32) (p674916 : Int32) (p674917 : Int32) (qo674918 : Nat) (qo674919 : Nat) (p674920 : Int32) (p674921 : Int32) (p674922 : Int32) (p674923 : Int32) (p674924 : Int32) (p674925 : Int32) (p674926 : Int32) (p674927 : Int32) (f674928 : Nat → Int32) (xt674929 : gTx) : Option Value → va_W → Nat → Nat → Prop := fun r w dc ds => ∃ (P675419 : List Nat) (F675420 : Nat → va_E) (o675407 : Int32) (o675408 : Int32) (o675409 : Int32) (o675410 : Int32) (o675411 : Int32) (q675412 : Nat) (o675413 : Int32) (o675414 : Int32) (o675415 : Int32) (o675416 : Int32) (o675417 : Int32) (o675418 : Int32) (xt675421 : gTx), r = none ∧ w = va_pl P675419 F675420 ∧ rSub P674903 P675419 ∧ rFr [q674906, q674905] P674903 F674904 F675420 ∧ F675420 q674906 = .inr (20, [.int o675413, .int o675414, .int o675415, .int o675416, .int p674925, .int o675417, .int o675418]) ∧ F675420 q674905 = .inr (19, [.ref q674907, .int p674908, .int o675407, .int o675408, .int o675409, .int o675410, .int o675411, .ref q675412, .int p674915, .int p674916, .int p674917, .ref qo674918, .ref qo674919, .int p674920]) ∧ F675420 q674907 = .inl (I .byte, 8192, .inl f674928) ∧ dc ≤ (16 * (o675407.toInt - p674909.toInt)).toNat + 8 ∧ ds ≤ (160 * (o675407.toInt - p674909.toInt)).toNat + 64 ∧ gB o675407 0 8192 ∧ gB o675408 0 6 ∧ gB o675409 0 8192 ∧ gB o675411 0 6 ∧ gB o675413 0 22 ∧ gB o675414 0 1999 ∧ gB o675417 0 1 ∧ gB o675418 0 1 ∧ p674909.toInt ≤ o675407.toInt ∧ prP o675408 p674909 o675407 ∧ o675407.toInt ≤ p674908.toInt ∧ tP I P675419 F675420 o675408 q675412 qo674919 qo674918 xt675421 ∧ vP o675408 o675410 ∧ rwP o675417 o675415 ∧ rwP o675418 o675416 ∧ opP o675413 ∧ opQ o675413 ∧ nzK p674910 ∧ rwQ p674909 o675407 o675408 ∧ tr_RReader_row p674908 p674909 p674910 p674912 p674922 p674923 p674924 p674926 p674927 f674928 xt674929 o675407 o675408 o675409 o675410 o675411 o675413 o675414 o675415 o675416 o675417 o675418 xt675421
def xp_674938_Reader_row (D : va_G) (I : FieldType → ClassId) (P674903 : List Nat) (F674904 : Nat → va_E) (q674905 : Nat) (q674906 : Nat) (q674907 : Nat) (p674908 : Int32) (p674909 : Int32) (p674910 : Int32) (p674911 : Int32) (p674912 : Int32) (p674913 : Int32) (qo674914 : Nat) (p674915 : Int32) (p674916 : Int32) (p674917 : Int32) (qo674918 : Nat) (qo674919 : Nat) (p674920 : Int32) (p674921 : Int32) (p674922 : Int32) (p674923 : Int32) (p674924 : Int32) (p674925 : Int32) (p674926 : Int32) (p674927 : Int32) (f674928 : Nat → Int32) (xt674929 : gTx) : String → Nat → va_W → Nat → Nat → Prop := fun E q w dc ds => ∃ (P675423 : List Nat) (F675422 : Nat → va_E), E = "SpillForgeModel$Wrong" ∧ w = va_pl P675423 F675422 ∧ rSub P674903 P675423 ∧ rFr [q674906, q674905] P674903 F674904 F675422 ∧ q ∈ P675423 ∧ q ∉ P674903 ∧ wrF F675422 q ∧ dc ≤ (16 * (p674908.toInt - p674909.toInt)).toNat + 9 ∧ ds ≤ (160 * (p674908.toInt - p674909.toInt)).toNat + 71 ∧ rkR (F675422 q674906) ∧ tx_RReader_row p674908 p674909 p674910 p674912 p674923 p674924 p674926 p674927 f674928 xt674929
set_option maxRecDepth 100000 in
set_option maxHeartbeats 4000000 in
theorem cp_674938_Reader_row (l : Launch) (hl0 : l.stackTraces = false) (D : va_G) (I : FieldType → ClassId) (P674903 : List Nat) (F674904 : Nat → va_E) (q674905 : Nat) (q674906 : Nat) (q674907 : Nat) (p674908 : Int32) (p674909 : Int32) (p674910 : Int32) (p674911 : Int32) (p674912 : Int32) (p674913 : Int32) (qo674914 : Nat) (p674915 : Int32) (p674916 : Int32) (p674917 : Int32) (qo674918 : Nat) (qo674919 : Nat) (p674920 : Int32) (p674921 : Int32) (p674922 : Int32) (p674923 : Int32) (p674924 : Int32) (p674925 : Int32) (p674926 : Int32) (p674927 : Int32) (f674928 : Nat → Int32) (xt674929 : gTx) (hmq674905 : q674905 ∈ P674903) (hmq674906 : q674906 ∈ P674903) (hmq674907 : q674907 ∈ P674903) (heq674905 : F674904 q674905 = .inr (19, [.ref q674907, .int p674908, .int p674909, .int p674910, .int p674911, .int p674912, .int p674913, .ref qo674914, .int p674915, .int p674916, .int p674917, .ref qo674918, .ref qo674919, .int p674920])) (heq674906 : F674904 q674906 = .inr (20, [.int p674921, .int p674922, .int p674923, .int p674924, .int p674925, .int p674926, .int p674927])) (heq674907 : F674904 q674907 = .inl (I .byte, 8192, .inl f674928)) (bp674908 : gB p674908 0 8192) (bp674909 : gB p674909 0 8192) (bp674910 : gB p674910 0 6) (bp674911 : gB p674911 0 8192) (bp674913 : gB p674913 0 6) (bp674915 : gB p674915 (-1) 8192) (bp674916 : gB p674916 0 4) (bp674917 : gB p674917 0 1000000) (bp674920 : gB p674920 0 1000000) (bp674921 : gB p674921 0 32) (bp674922 : gB p674922 0 1999) (bp674925 : gB p674925 0 1999) (bp674926 : gB p674926 0 1) (bp674927 : gB p674927 0 1) (bf674928 : gF f674928 (-128) 127) (x674930 : p674909.toInt ≤ p674908.toInt) (x674931 : qo674919 ∈ P674903) (x674932 : qo674918 ∈ P674903) (x674933 : tP I P674903 F674904 p674910 qo674914 qo674919 qo674918 xt674929) (x674934 : vP p674910 p674912) (x674935 : rwP p674926 p674923) (x674936 : rwP p674927 p674924) (x674937 : opP p674921) : CtA (gV D I) l yX14_row cX14_row 2 none 9 200 ((16 * (p674908.toInt - p674909.toInt)).toNat + 9) ((160 * (p674908.toInt - p674909.toInt)).toNat + 71) [.ref q674905, .ref q674906] (va_pl P674903 F674904) (pp_674938_Reader_row D I P674903 F674904 q674905 q674906 q674907 p674908 p674909 p674910 p674911 p674912 p674913 qo674914 p674915 p674916 p674917 qo674918 qo674919 p674920 p674921 p674922 p674923 p674924 p674925 p674926 p674927 f674928 xt674929) (xp_674938_Reader_row D I P674903 F674904 q674905 q674906 q674907 p674908 p674909 p674910 p674911 p674912 p674913 qo674914 p674915 p674916 p674917 qo674918 qo674919 p674920 p674921 p674922 p674923 p674924 p674925 p674926 p674927 f674928 xt674929) := by
  refine CtA_of hl0 (by decide) (Nat.le_of_ble_eq_true rfl) ?_
  have bp674912 := gB_any p674912
  have bp674923 := gB_any p674923
  have bp674924 := gB_any p674924
  refine G_aload_n 0 dr_cX14_row_0 rfl ?_
  refine G_ldcK (a := D.2 1000 39) dr_cX14_row_1 (fun _ _ _ h => gx_vk 39 rfl rfl h) ?_
  have hl39_674938 : (sb_39.length : Int) = 4 := rfl
  refine Gw_callV (As := [.ref (D.2 1000 39)]) (gV_ok D I) (cp_673586_Reader_is l hl0 D I P674903 F674904 q674905 q674907 (D.2 1000 39) (D.2 1001 39) sb_39 p674908 p674909 p674910 p674911 p674912 p674913 qo674914 p674915 p674916 p674917 qo674918 qo674919 p674920 f674928 xt674929 hmq674905 hmq674907 heq674905 heq674907 (gx_sc 39 rfl rfl) (by omega) (by decide +kernel) bp674908 bp674909 bp674910 bp674911 bp674913 bp674915 bp674916 bp674917 bp674920 bf674928 x674933) dr_cX14_row_3 ⟨wr_9_141, wr_1_32, wr_9_144, by decide, rfl, (Nat.le_of_ble_eq_true rfl), (Nat.le_of_ble_eq_true rfl)⟩ wr_9_143 wr_p_84 hmq674905 heq674905 rfl (show 0 + 0 ≤ ((16 * (p674908.toInt - p674909.toInt)).toNat + 9) by first | omega | decide) (show 0 + 0 ≤ ((160 * (p674908.toInt - p674909.toInt)).toNat + 71) by first | omega | decide) (Nat.le_of_ble_eq_true rfl) (fun r674943 w674944 dc674940 ds674941 hp674942 => ?_) (fun _ _ _ _ _ z => z.elim)
  obtain ⟨o674945, rfl, rfl, hdc, hds, bo674945, x674946, ht674947⟩ := hp674942
  change G _ _ _ _ _ _ _ (.int o674945 :: _) _ _ _
  refine G_widen (cs' := 0) (sl' := 0) (by omega) (by omega) ?_
  refine G_if_eq 26 dr_cX14_row_6 (by decide +kernel) (fun hc674948 => ?_) (fun hc674948 => ?_)
  · have r674949 : o674945.toInt = 0 := gj_eq hc674948 (show Int32.toInt 0 = 0 by decide)
    have bo674945' : gB o674945 0 0 := ⟨by omega, by omega⟩
    refine G_aload_n 1 dr_cX14_row_26 rfl ?_
    refine G_aload_n 0 dr_cX14_row_27 rfl ?_
    refine G_iconst 2 dr_cX14_row_28 (by decide +kernel) ?_
    refine Gw_callV (As := [.int 2]) (gV_ok D I) (cp_673763_Reader_want l hl0 D I P674903 F674904 q674905 q674907 2 p674908 p674909 p674910 p674911 p674912 p674913 qo674914 p674915 p674916 p674917 qo674918 qo674919 p674920 f674928 xt674929 hmq674905 hmq674907 heq674905 heq674907 (gB_w (gBl (show Int32.toInt 2 = 2 by decide)) (by decide) (by decide)) bp674908 bp674909 bp674910 bp674911 bp674913 bp674915 bp674916 bp674917 bp674920 bf674928 (by omega) x674931 x674932 x674933 x674934) dr_cX14_row_29 ⟨wr_9_93, wr_1_32, wr_9_96, by decide, rfl, (Nat.le_of_ble_eq_true rfl), (Nat.le_of_ble_eq_true rfl)⟩ wr_9_95 wr_p_80 hmq674905 heq674905 rfl (show 0 + ((16 * (p674908.toInt - p674909.toInt)).toNat + 1) ≤ ((16 * (p674908.toInt - p674909.toInt)).toNat + 9) by first | omega | decide) (show 0 + ((160 * (p674908.toInt - p674909.toInt)).toNat + 7) ≤ ((160 * (p674908.toInt - p674909.toInt)).toNat + 71) by first | omega | decide) (Nat.le_of_ble_eq_true rfl) (fun r674953 w674954 dc674950 ds674951 hp674952 => ?_) (fun _ qx674966 _ dc674964 ds674965 hx => by obtain ⟨P674962, F674963, rfl, rfl, hsb674955, hfr674956, hq674957, hqn674958, hwr674959, hdc674960, hds674961, ht674967⟩ := hx; exact GT_outA rfl (show 0 + dc674964 ≤ ((16 * (p674908.toInt - p674909.toInt)).toNat + 9) by omega) (show 0 + ds674965 ≤ ((160 * (p674908.toInt - p674909.toInt)).toNat + 71) by omega) ⟨P674962, F674963, rfl, rfl, (rSub_tr (rSub_rf (P := P674903)) hsb674955), (rFr_v (show rFr [] P674903 F674904 F674963 from rFr_call (rSub_rf (P := P674903)) (rFr_rf (W := []) (P := P674903) (F := F674904)) hfr674956 (fun b hb hn => ⟨nm_n, nm_n⟩)) (fun b hn => nm_n)), hq674957, (fun z => hqn674958 ((rSub_rf (P := P674903)) _ z)), hwr674959, (by omega), (by omega), ⟨p674921, p674922, p674923, p674924, p674925, p674926, p674927, ((hfr674956 q674906 hmq674906 nm_n).trans heq674906), bp674921, bp674922, bp674925, bp674926, bp674927, x674937, x674935, x674936⟩, (fun R c1 c2 c3 c4 c5 => c1 o674945 bo674945 ht674947 r674949 ht674967)⟩)
    obtain ⟨P674982, F674983, o674968, o674969, o674970, o674971, q674972, xt674981, rfl, rfl, hsb674984, hfr674985, he674986, he674987, hdc, hds, bo674968, bo674969, bo674970, x674973, x674974, x674975, x674976, x674977, x674978, x674979, ht674980⟩ := hp674952
    have hm674988 : q674905 ∈ P674982 := hsb674984 q674905 hmq674905
    have hm674989 : q674906 ∈ P674982 := hsb674984 q674906 hmq674906
    have hm674990 : q674907 ∈ P674982 := hsb674984 q674907 hmq674907
    have hsb674991 : rSub P674903 P674982 := rSub_tr (rSub_rf (P := P674903)) hsb674984
    have he674992 : F674983 q674906 = .inr (20, [.int p674921, .int p674922, .int p674923, .int p674924, .int p674925, .int p674926, .int p674927]) := (hfr674985 q674906 hmq674906 (nm_c (rn_oo heq674906 heq674905 (by decide)) nm_n)).trans heq674906
    have hfr674993 : rFr [q674905] P674903 F674904 F674983 := rFr_call (rSub_rf (P := P674903)) (rFr_rf (W := []) (P := P674903) (F := F674904)) hfr674985 (fun b hb hn => ⟨nm_n, (nm_c (fun e => hn (e ▸ List.mem_cons_self)) nm_n)⟩)
    have bo674971 := gB_any o674971
    rw [show Int32.toInt 2 = 2 from by decide] at x674979
    change G _ _ _ _ _ _ _ (.int p674912 :: _) _ _ _
    refine G_widen (cs' := (16 * (o674968.toInt - p674909.toInt)).toNat) (sl' := (160 * (o674968.toInt - p674909.toInt)).toNat) (by omega) (by omega) ?_
    have bv674994 : gB p674912 0 99 := vP_g2 x674978
    have x674995 : p674909.toInt ≤ o674968.toInt := by omega
    have x674996 : p674909.toInt + 0 ≤ p674909.toInt := by omega
    have x674997 : p674909.toInt + 0 ≤ o674968.toInt := by omega
    have x674998 : prQ o674969 (p674909.toInt + 1) o674968 := prP_q x674974 x674996 (by omega)
    refine G_widen (cs' := (16 * (o674968.toInt - p674909.toInt) + 0 : Int).toNat) (sl' := (160 * (o674968.toInt - p674909.toInt) + 0 : Int).toNat) (by omega) (by omega) ?_
    refine Gp_put 1 hm674989 he674992 dr_cX14_row_32 (gk_X15 D I) (Nat.le_of_ble_eq_true rfl) wr_9_183 rfl rfl rfl (Nat.le_of_ble_eq_true rfl) (fun F674999 e675000 n675001 => ?_)
    have he675002 : F674999 q674905 = .inr (19, [.ref q674907, .int p674908, .int o674968, .int o674969, .int o674970, .int o674971, .int p674910, .ref q674972, .int p674915, .int p674916, .int p674917, .ref qo674918, .ref qo674919, .int p674920]) := (n675001 q674905 (rn_oo he674986 he674992 (by decide))).trans he674986
    have he675003 : F674999 q674907 = .inl (I .byte, 8192, .inl f674928) := (n675001 q674907 (rn_ao he674987 he674992)).trans he674987
    have he675004 : F674999 q674906 = .inr (20, [.int p674921, .int p674912, .int p674923, .int p674924, .int p674925, .int p674926, .int p674927]) := e675000
    have hfr675005 : rFr [q674906, q674905] P674903 F674904 F674999 := rFr_put hfr674993 n675001
    have tp675006 : tP I P674982 F674999 o674969 q674972 qo674919 qo674918 xt674981 := tP_put x674976 he674992 (by decide) n675001
    clear hsb674984 hfr674985 he674986 he674987 he674992 hfr674993; try clear r674943; try clear w674944; try clear dc674940; try clear ds674941; try clear hp674942; try clear r674953; try clear w674954; try clear dc674950; try clear ds674951; try clear hp674952
    refine G_aload_n 0 dr_cX14_row_35 rfl ?_
    refine G_ldcK (a := D.2 1000 40) dr_cX14_row_36 (fun _ _ _ h => gx_vk 40 rfl rfl h) ?_
    have hl40_675006 : (sb_40.length : Int) = 1 := rfl
    refine Gw_callV (As := [.ref (D.2 1000 40)]) (gV_ok D I) (cp_673668_Reader_want l hl0 D I P674982 F674999 q674905 q674907 (D.2 1000 40) (D.2 1001 40) sb_40 p674908 o674968 o674969 o674970 o674971 p674910 q674972 p674915 p674916 p674917 qo674918 qo674919 p674920 f674928 xt674981 hm674988 hm674990 he675002 he675003 (gx_sc 40 rfl rfl) (by omega) (by decide +kernel) bp674908 bo674968 bo674969 bo674970 bp674910 bp674915 bp674916 bp674917 bp674920 bf674928 (by omega) (hsb674991 _ x674931) (hsb674991 _ x674932) tp675006) dr_cX14_row_38 ⟨wr_9_137, wr_1_32, wr_9_140, by decide, rfl, (Nat.le_of_ble_eq_true rfl), (Nat.le_of_ble_eq_true rfl)⟩ wr_9_139 wr_p_83 hm674988 he675002 rfl (show (16 * (o674968.toInt - p674909.toInt) + 0 : Int).toNat + ((16 * (p674908.toInt - o674968.toInt)).toNat + 1) ≤ ((16 * (p674908.toInt - p674909.toInt)).toNat + 9) by first | omega | decide) (show (160 * (o674968.toInt - p674909.toInt) + 0 : Int).toNat + ((160 * (p674908.toInt - o674968.toInt)).toNat + 7) ≤ ((160 * (p674908.toInt - p674909.toInt)).toNat + 71) by first | omega | decide) (Nat.le_of_ble_eq_true rfl) (fun r675011 w675012 dc675008 ds675009 hp675010 => ?_) (fun _ qx675024 _ dc675022 ds675023 hx => by obtain ⟨P675020, F675021, rfl, rfl, hsb675013, hfr675014, hq675015, hqn675016, hwr675017, hdc675018, hds675019, ht675025⟩ := hx; exact GT_outA rfl (show (16 * (o674968.toInt - p674909.toInt) + 0 : Int).toNat + dc675022 ≤ ((16 * (p674908.toInt - p674909.toInt)).toNat + 9) by omega) (show (160 * (o674968.toInt - p674909.toInt) + 0 : Int).toNat + ds675023 ≤ ((160 * (p674908.toInt - p674909.toInt)).toNat + 71) by omega) ⟨P675020, F675021, rfl, rfl, (rSub_tr hsb674991 hsb675013), (show rFr [q674906, q674905] P674903 F674904 F675021 from rFr_call hsb674991 hfr675005 hfr675014 (fun b hb hn => ⟨(nm_c (fun e => hn (e ▸ List.mem_cons_self)) (nm_c (fun e => hn (e ▸ (List.mem_cons_of_mem _ List.mem_cons_self))) nm_n)), nm_n⟩)), hq675015, (fun z => hqn675016 (hsb674991 _ z)), hwr675017, (by omega), (by omega), ⟨p674921, p674912, p674923, p674924, p674925, p674926, p674927, ((hfr675014 q674906 hm674989 nm_n).trans he675004), bp674921, (gB_w bv674994 (by decide) (by decide)), bp674925, bp674926, bp674927, x674937, x674935, x674936⟩, (fun R c1 c2 c3 c4 c5 => c2 o674945 xt674981 o674968 o674969 o674970 o674971 bo674945 ht674947 r674949 bo674968 bo674969 bo674970 ht674980 ht675025)⟩)
    obtain ⟨P675039, F675040, o675026, o675027, o675028, o675029, q675030, xt675038, rfl, rfl, hsb675041, hfr675042, he675043, he675044, hdc, hds, bo675026, bo675027, bo675028, x675031, x675032, x675033, x675034, x675035, x675036, ht675037⟩ := hp675010
    have hm675045 : q674905 ∈ P675039 := hsb675041 q674905 hm674988
    have hm675046 : q674906 ∈ P675039 := hsb675041 q674906 hm674989
    have hm675047 : q674907 ∈ P675039 := hsb675041 q674907 hm674990
    have hsb675048 : rSub P674903 P675039 := rSub_tr hsb674991 hsb675041
    have he675049 : F675040 q674906 = .inr (20, [.int p674921, .int p674912, .int p674923, .int p674924, .int p674925, .int p674926, .int p674927]) := (hfr675042 q674906 hm674989 (nm_c (rn_oo he675004 he675002 (by decide)) nm_n)).trans he675004
    have hfr675050 : rFr [q674906, q674905] P674903 F674904 F675040 := rFr_call hsb674991 hfr675005 hfr675042 (fun b hb hn => ⟨(nm_c (fun e => hn (e ▸ List.mem_cons_self)) (nm_c (fun e => hn (e ▸ (List.mem_cons_of_mem _ List.mem_cons_self))) nm_n)), (nm_c (fun e => hn (e ▸ (List.mem_cons_of_mem _ List.mem_cons_self))) nm_n)⟩)
    have bo675029 := gB_any o675029
    change G _ _ _ _ _ _ _ _ _ _ _
    refine G_widen (cs' := (16 * (o674968.toInt - p674909.toInt) + 0 : Int).toNat + ((16 * (o675026.toInt - o674968.toInt)).toNat)) (sl' := (160 * (o674968.toInt - p674909.toInt) + 0 : Int).toNat + ((160 * (o675026.toInt - o674968.toInt)).toNat)) (by omega) (by omega) ?_
    have x675051 : p674909.toInt ≤ o675026.toInt := by omega
    have x675052 : p674909.toInt + 1 ≤ o674968.toInt := by have q := (prQ_le x674998 x675036); omega
    have x675053 : p674909.toInt + 1 ≤ o675026.toInt := by omega
    have x675054 : prQ o675027 (p674909.toInt + 2) o675026 := prP_q x675032 x675052 (by omega)
    refine G_widen (cs' := (16 * (o675026.toInt - p674909.toInt) + 0 : Int).toNat) (sl' := (160 * (o675026.toInt - p674909.toInt) + 0 : Int).toNat) (by omega) (by omega) ?_
    clear hm674988 hm674989 hm674990 hsb674991 he675002 he675003 he675004 hfr675005 hsb675041 hfr675042; try clear r675011; try clear w675012; try clear dc675008; try clear ds675009; try clear hp675010
    refine G_aload_n 0 dr_cX14_row_41 rfl ?_
    refine G_ldcK (a := D.2 1000 41) dr_cX14_row_42 (fun _ _ _ h => gx_vk 41 rfl rfl h) ?_
    have hl41_675054 : (sb_41.length : Int) = 2 := rfl
    refine Gw_callV (As := [.ref (D.2 1000 41)]) (gV_ok D I) (cp_673586_Reader_is l hl0 D I P675039 F675040 q674905 q674907 (D.2 1000 41) (D.2 1001 41) sb_41 p674908 o675026 o675027 o675028 o675029 o674969 q675030 p674915 p674916 p674917 qo674918 qo674919 p674920 f674928 xt675038 hm675045 hm675047 he675043 he675044 (gx_sc 41 rfl rfl) (by omega) (by decide +kernel) bp674908 bo675026 bo675027 bo675028 bo674969 bp674915 bp674916 bp674917 bp674920 bf674928 x675034) dr_cX14_row_44 ⟨wr_9_141, wr_1_32, wr_9_144, by decide, rfl, (Nat.le_of_ble_eq_true rfl), (Nat.le_of_ble_eq_true rfl)⟩ wr_9_143 wr_p_84 hm675045 he675043 rfl (show (16 * (o675026.toInt - p674909.toInt) + 0 : Int).toNat + 0 ≤ ((16 * (p674908.toInt - p674909.toInt)).toNat + 9) by first | omega | decide) (show (160 * (o675026.toInt - p674909.toInt) + 0 : Int).toNat + 0 ≤ ((160 * (p674908.toInt - p674909.toInt)).toNat + 71) by first | omega | decide) (Nat.le_of_ble_eq_true rfl) (fun r675059 w675060 dc675056 ds675057 hp675058 => ?_) (fun _ _ _ _ _ z => z.elim)
    obtain ⟨o675061, rfl, rfl, hdc, hds, bo675061, x675062, ht675063⟩ := hp675058
    change G _ _ _ _ _ _ _ (.int o675061 :: _) _ _ _
    refine G_widen (cs' := (16 * (o675026.toInt - p674909.toInt) + 0 : Int).toNat + 0) (sl' := (160 * (o675026.toInt - p674909.toInt) + 0 : Int).toNat + 0) (by omega) (by omega) ?_
    refine G_if_eq 61 dr_cX14_row_47 (by decide +kernel) (fun hc675064 => ?_) (fun hc675064 => ?_)
    · have r675065 : o675061.toInt = 0 := gj_eq hc675064 (show Int32.toInt 0 = 0 by decide)
      have bo675061' : gB o675061 0 0 := ⟨by omega, by omega⟩
      refine G_aload_n 0 dr_cX14_row_61 rfl ?_
      refine G_aload_n 1 dr_cX14_row_62 rfl ?_
      refine G_iconst 0 dr_cX14_row_63 (by decide +kernel) ?_
      refine Gw_callV (As := [.ref q674906, .int 0]) (gV_ok D I) (cp_673934_Reader_operand l hl0 D I P675039 F675040 q674905 q674906 q674907 0 p674908 o675026 o675027 o675028 o675029 o674969 q675030 p674915 p674916 p674917 qo674918 qo674919 p674920 p674921 p674912 p674923 p674924 p674925 p674926 p674927 f674928 xt675038 hm675045 hm675046 hm675047 he675043 he675049 he675044 (gB_w (gBl (show Int32.toInt 0 = 0 by decide)) (by decide) (by decide)) bp674908 bo675026 bo675027 bo675028 bo674969 bp674915 bp674916 bp674917 bp674920 bp674921 (gB_w bv674994 (by decide) (by decide)) bp674925 bp674926 bp674927 bf674928 (by omega) (hsb675048 _ x674931) (hsb675048 _ x674932) x675034 x675035 x674935 x674936 x674937) dr_cX14_row_64 ⟨wr_10_89, wr_1_32, wr_10_92, by decide, rfl, (Nat.le_of_ble_eq_true rfl), (Nat.le_of_ble_eq_true rfl)⟩ wr_10_91 wr_p_89 hm675045 he675043 rfl (show (16 * (o675026.toInt - p674909.toInt) + 0 : Int).toNat + 0 + ((16 * (p674908.toInt - o675026.toInt)).toNat + 1) ≤ ((16 * (p674908.toInt - p674909.toInt)).toNat + 9) by first | omega | decide) (show (160 * (o675026.toInt - p674909.toInt) + 0 : Int).toNat + 0 + ((160 * (p674908.toInt - o675026.toInt)).toNat + 7) ≤ ((160 * (p674908.toInt - p674909.toInt)).toNat + 71) by first | omega | decide) (Nat.le_of_ble_eq_true rfl) (fun r675069 w675070 dc675066 ds675067 hp675068 => ?_) (fun _ qx675082 _ dc675080 ds675081 hx => by obtain ⟨P675078, F675079, rfl, rfl, hsb675071, hfr675072, hq675073, hqn675074, hwr675075, hdc675076, hds675077, x675083, ht675084⟩ := hx; exact GT_outA rfl (show (16 * (o675026.toInt - p674909.toInt) + 0 : Int).toNat + 0 + dc675080 ≤ ((16 * (p674908.toInt - p674909.toInt)).toNat + 9) by omega) (show (160 * (o675026.toInt - p674909.toInt) + 0 : Int).toNat + 0 + ds675081 ≤ ((160 * (p674908.toInt - p674909.toInt)).toNat + 71) by omega) ⟨P675078, F675079, rfl, rfl, (rSub_tr hsb675048 hsb675071), (show rFr [q674906, q674905] P674903 F674904 F675079 from rFr_call hsb675048 hfr675050 hfr675072 (fun b hb hn => ⟨(nm_c (fun e => hn (e ▸ List.mem_cons_self)) (nm_c (fun e => hn (e ▸ (List.mem_cons_of_mem _ List.mem_cons_self))) nm_n)), nm_n⟩)), hq675073, (fun z => hqn675074 (hsb675048 _ z)), hwr675075, (by omega), (by omega), ⟨p674921, p674912, p674923, p674924, p674925, p674926, p674927, ((hfr675072 q674906 hm675046 nm_n).trans he675049), bp674921, (gB_w bv674994 (by decide) (by decide)), bp674925, bp674926, bp674927, x674937, x674935, x674936⟩, (fun R c1 c2 c3 c4 c5 => c3 o674945 xt674981 o674968 o674969 o674970 o674971 xt675038 o675026 o675027 o675028 o675029 o675061 bo674945 ht674947 r674949 bo674968 bo674969 bo674970 ht674980 bo675026 bo675027 bo675028 ht675037 bo675061 ht675063 r675065 ht675084)⟩)
      obtain ⟨P675104, F675105, o675085, o675086, o675087, o675088, q675089, o675090, o675091, o675092, o675093, xt675103, rfl, rfl, hsb675106, hfr675107, he675108, he675109, he675110, hdc, hds, bo675085, bo675086, bo675087, bo675092, bo675093, x675094, x675095, x675096, x675097, x675098, x675099, x675100, x675101, ht675102⟩ := hp675068
      have hm675111 : q674905 ∈ P675104 := hsb675106 q674905 hm675045
      have hm675112 : q674906 ∈ P675104 := hsb675106 q674906 hm675046
      have hm675113 : q674907 ∈ P675104 := hsb675106 q674907 hm675047
      have hsb675114 : rSub P674903 P675104 := rSub_tr hsb675048 hsb675106
      have hfr675115 : rFr [q674906, q674905] P674903 F674904 F675105 := rFr_call hsb675048 hfr675050 hfr675107 (fun b hb hn => ⟨(nm_c (fun e => hn (e ▸ List.mem_cons_self)) (nm_c (fun e => hn (e ▸ (List.mem_cons_of_mem _ List.mem_cons_self))) nm_n)), (nm_c (fun e => hn (e ▸ List.mem_cons_self)) (nm_c (fun e => hn (e ▸ (List.mem_cons_of_mem _ List.mem_cons_self))) nm_n))⟩)
      have bo675088 := gB_any o675088
      have bo675090 := gB_any o675090
      have bo675091 := gB_any o675091
      change G _ _ _ _ _ _ _ _ _ _ _
      refine G_widen (cs' := (16 * (o675026.toInt - p674909.toInt) + 0 : Int).toNat + 0 + ((16 * (o675085.toInt - o675026.toInt)).toNat)) (sl' := (160 * (o675026.toInt - p674909.toInt) + 0 : Int).toNat + 0 + ((160 * (o675085.toInt - o675026.toInt)).toNat)) (by omega) (by omega) ?_
      have x675116 : p674909.toInt ≤ o675085.toInt := by omega
      have x675117 : p674909.toInt + 2 ≤ o675026.toInt := by have q := (prQ_le x675054 x675101); omega
      have x675118 : p674909.toInt + 2 ≤ o675085.toInt := by omega
      have x675119 : prQ o675086 (p674909.toInt + 3) o675085 := prP_q x675095 x675117 (by omega)
      refine G_widen (cs' := (16 * (o675085.toInt - p674909.toInt) + 0 : Int).toNat) (sl' := (160 * (o675085.toInt - p674909.toInt) + 0 : Int).toNat) (by omega) (by omega) ?_
      clear he675043 he675044 hm675045 hm675046 hm675047 hsb675048 he675049 hfr675050 hsb675106 hfr675107; try clear r675059; try clear w675060; try clear dc675056; try clear ds675057; try clear hp675058; try clear r675069; try clear w675070; try clear dc675066; try clear ds675067; try clear hp675068
      refine G_aload_n 1 dr_cX14_row_67 rfl ?_
      refine G_aload_n 0 dr_cX14_row_68 rfl ?_
      refine Gp_get 3 hm675111 he675109 dr_cX14_row_69 (gk_X14 D I) (Nat.le_of_ble_eq_true rfl) wr_9_39 rfl ?_
      refine G_iconst 5 dr_cX14_row_72 (by decide +kernel) ?_
      refine G_icmp_ne 86 dr_cX14_row_73 (by decide +kernel) (fun hc675120 => ?_) (fun hc675120 => ?_)
      · have r675121 : o675086.toInt ≠ 5 := gj_neq hc675120 (show Int32.toInt 5 = 5 by decide)
        refine G_widen (cs' := (16 * (o675085.toInt - p674909.toInt) + 8 : Int).toNat) (sl' := (160 * (o675085.toInt - p674909.toInt) + 64 : Int).toNat) (by omega) (by omega) ?_
        refine G_iconst 0 dr_cX14_row_86 (by decide +kernel) ?_
        refine Gp_put 0 hm675112 he675108 dr_cX14_row_87 (gk_X15 D I) (Nat.le_of_ble_eq_true rfl) wr_9_179 rfl rfl rfl (Nat.le_of_ble_eq_true rfl) (fun F675122 e675123 n675124 => ?_)
        have he675125 : F675122 q674905 = .inr (19, [.ref q674907, .int p674908, .int o675085, .int o675086, .int o675087, .int o675088, .int o675027, .ref q675089, .int p674915, .int p674916, .int p674917, .ref qo674918, .ref qo674919, .int p674920]) := (n675124 q674905 (rn_oo he675109 he675108 (by decide))).trans he675109
        have he675126 : F675122 q674907 = .inl (I .byte, 8192, .inl f674928) := (n675124 q674907 (rn_ao he675110 he675108)).trans he675110
        have he675127 : F675122 q674906 = .inr (20, [.int 0, .int p674912, .int o675090, .int o675091, .int p674925, .int o675092, .int o675093]) := e675123
        have hfr675128 : rFr [q674906, q674905] P674903 F674904 F675122 := rFr_put' List.mem_cons_self hfr675115 n675124
        have tp675129 : tP I P675104 F675122 o675086 q675089 qo674919 qo674918 xt675103 := tP_put x675097 he675108 (by decide) n675124
        clear he675108 he675109 he675110 hfr675115
        refine G_aload_n 1 dr_cX14_row_90 rfl ?_
        refine Gp_get 0 hm675112 he675127 dr_cX14_row_91 (gk_X15 D I) (Nat.le_of_ble_eq_true rfl) wr_9_179 rfl ?_
        refine G_if_ne 98 dr_cX14_row_94 (by decide +kernel) (fun hc => absurd hc (by decide)) (fun _ => ?_)
        exact G_vretA dr_cX14_row_97 rfl (show (16 * (o675085.toInt - p674909.toInt) + 8 : Int).toNat ≤ ((16 * (p674908.toInt - p674909.toInt)).toNat + 9) by omega) (show (160 * (o675085.toInt - p674909.toInt) + 64 : Int).toNat ≤ ((160 * (p674908.toInt - p674909.toInt)).toNat + 71) by omega) ⟨P675104, F675122, o675085, o675086, o675087, o675088, o675027, q675089, 0, p674912, o675090, o675091, o675092, o675093, xt675103, rfl, rfl, hsb675114, hfr675128, he675127, he675125, he675126, (by omega), (by omega), bo675085, bo675086, bo675087, bo675027, (gB_w (gBl (show Int32.toInt 0 = 0 by decide)) (by decide) (by decide)), (gB_w bv674994 (by decide) (by decide)), bo675092, bo675093, (by have qa0 : Int32.toInt 0 = 0 := (by decide); omega), (prP_le x675095 (by omega)), (by have qa0 : Int32.toInt 0 = 0 := (by decide); omega), tp675129, x675098, x675099, x675100, (Or.inl (by decide)), (Or.inl (by decide)), (show nzK p674910 by unfold nzK; omega), ⟨by omega, Or.inr (by omega)⟩, (fun R c1 c2 c3 c4 c5 => c1 o674945 xt674981 o674968 o674969 o674970 o674971 xt675038 o675026 o675027 o675028 o675029 o675061 xt675103 o675085 o675086 o675087 o675088 o675090 o675091 o675092 o675093 bo674945 ht674947 r674949 bo674968 bo674969 bo674970 ht674980 bo675026 bo675027 bo675028 ht675037 bo675061 ht675063 r675065 bo675085 bo675086 bo675087 bo675092 bo675093 ht675102 r675121)⟩
      · have r675130 : o675086.toInt = 5 := gj_eq hc675120 (show Int32.toInt 5 = 5 by decide)
        have bo675086' : gB o675086 5 5 := ⟨by omega, by omega⟩
        refine G_aload_n 0 dr_cX14_row_76 rfl ?_
        refine Gp_get 7 hm675111 he675109 dr_cX14_row_77 (gk_X14 D I) (Nat.le_of_ble_eq_true rfl) wr_9_43 rfl ?_
        obtain ⟨q675131, p675132, p675133, hm675134, he675135, hm675136, he675137, bq675131, x675138, bp675133, hg675139, hg675140⟩ := x675097.2 (by omega)
        have bp675132 := gB_any p675132
        refine Gw_callSN (As := [.ref q675089]) (gV_ok D I) (cp_674174_SpillForgeModel_operation l hl0 D I P675104 F675105 q675089 q675131 p675132 p675133 xt675103.2 xt675103.1 hm675134 hm675136 he675135 he675137 bp675133 bq675131 (by have qa0 : Int32.toInt 0 = 0 := (by decide); omega) (by have qa0 : Int32.toInt 0 = 0 := (by decide); omega)) dr_cX14_row_80 ⟨(fun _ _ _ h => gn_w 81 rfl h), wr_1_14, wr_10_97, by decide, rfl, (Nat.le_of_ble_eq_true rfl), (Nat.le_of_ble_eq_true rfl)⟩ wr_10_96 (show (16 * (o675085.toInt - p674909.toInt) + 0 : Int).toNat + 8 ≤ ((16 * (p674908.toInt - p674909.toInt)).toNat + 9) by first | omega | decide) (show (160 * (o675085.toInt - p674909.toInt) + 0 : Int).toNat + 64 ≤ ((160 * (p674908.toInt - p674909.toInt)).toNat + 71) by first | omega | decide) (Nat.le_of_ble_eq_true rfl) (fun r675144 w675145 dc675141 ds675142 hp675143 => ?_)
        obtain ⟨P675150, F675151, o675146, rfl, rfl, hsb675152, hfr675153, he675154, he675155, hdc, hds, bo675146, x675147, x675148, ht675149⟩ := hp675143
        have hm675156 : q674905 ∈ P675150 := hsb675152 q674905 hm675111
        have hm675157 : q674906 ∈ P675150 := hsb675152 q674906 hm675112
        have hm675158 : q674907 ∈ P675150 := hsb675152 q674907 hm675113
        have hm675159 : q675089 ∈ P675150 := hsb675152 q675089 hm675134
        have hm675160 : q675131 ∈ P675150 := hsb675152 q675131 hm675136
        have hsb675161 : rSub P674903 P675150 := rSub_tr hsb675114 hsb675152
        have he675162 : F675151 q674906 = .inr (20, [.int p674921, .int p674912, .int o675090, .int o675091, .int p674925, .int o675092, .int o675093]) := (hfr675153 q674906 hm675112 nm_n).trans he675108
        have he675163 : F675151 q674905 = .inr (19, [.ref q674907, .int p674908, .int o675085, .int o675086, .int o675087, .int o675088, .int o675027, .ref q675089, .int p674915, .int p674916, .int p674917, .ref qo674918, .ref qo674919, .int p674920]) := (hfr675153 q674905 hm675111 nm_n).trans he675109
        have he675164 : F675151 q674907 = .inl (I .byte, 8192, .inl f674928) := (hfr675153 q674907 hm675113 nm_n).trans he675110
        have hfr675165 : rFr [q674906, q674905] P674903 F674904 F675151 := rFr_call hsb675114 hfr675115 hfr675153 (fun b hb hn => ⟨(nm_c (fun e => hn (e ▸ List.mem_cons_self)) (nm_c (fun e => hn (e ▸ (List.mem_cons_of_mem _ List.mem_cons_self))) nm_n)), nm_n⟩)
        have tp675166 : tP I P675150 F675151 o675086 q675089 qo674919 qo674918 xt675103 := tP_new x675097 hsb675152 (fun b hb => hfr675153 b hb (fun z => by cases z)) (Or.inl rfl) (Or.inl rfl)
        change G _ _ _ _ _ _ _ (.int o675146 :: _) _ _ _
        refine G_widen (cs' := (16 * (o675085.toInt - p674909.toInt) + 0 : Int).toNat + 8) (sl' := (160 * (o675085.toInt - p674909.toInt) + 0 : Int).toNat + 64) (by omega) (by omega) ?_
        refine G_widen (cs' := (16 * (o675085.toInt - p674909.toInt) + 8 : Int).toNat) (sl' := (160 * (o675085.toInt - p674909.toInt) + 64 : Int).toNat) (by omega) (by omega) ?_
        refine G_goto 87 dr_cX14_row_83 (by decide +kernel) ?_
        refine Gp_put 0 hm675157 he675162 dr_cX14_row_87 (gk_X15 D I) (Nat.le_of_ble_eq_true rfl) wr_9_179 rfl rfl rfl (Nat.le_of_ble_eq_true rfl) (fun F675167 e675168 n675169 => ?_)
        have he675170 : F675167 q674905 = .inr (19, [.ref q674907, .int p674908, .int o675085, .int o675086, .int o675087, .int o675088, .int o675027, .ref q675089, .int p674915, .int p674916, .int p674917, .ref qo674918, .ref qo674919, .int p674920]) := (n675169 q674905 (rn_oo he675163 he675162 (by decide))).trans he675163
        have he675171 : F675167 q674907 = .inl (I .byte, 8192, .inl f674928) := (n675169 q674907 (rn_ao he675164 he675162)).trans he675164
        have he675172 : F675167 q675089 = .inr (0, [.ref q675131, .int 0, .int p675132, .int p675133]) := (n675169 q675089 (rn_oo he675154 he675162 (by decide))).trans he675154
        have he675173 : F675167 q675131 = .inl (I .byte, xt675103.1, .inl xt675103.2) := (n675169 q675131 (rn_ao he675155 he675162)).trans he675155
        have he675174 : F675167 q674906 = .inr (20, [.int o675146, .int p674912, .int o675090, .int o675091, .int p674925, .int o675092, .int o675093]) := e675168
        have hfr675175 : rFr [q674906, q674905] P674903 F674904 F675167 := rFr_put' List.mem_cons_self hfr675165 n675169
        have tp675176 : tP I P675150 F675167 o675086 q675089 qo674919 qo674918 xt675103 := tP_put tp675166 he675162 (by decide) n675169
        clear he675108 he675109 he675110 hm675111 hm675112 hm675113 hsb675114 hfr675115 hm675134 he675135 hm675136 he675137 hg675139 hg675140 hsb675152 hfr675153 he675154 he675155 he675162 he675163 he675164 hfr675165; try clear r675144; try clear w675145; try clear dc675141; try clear ds675142; try clear hp675143
        refine G_aload_n 1 dr_cX14_row_90 rfl ?_
        refine Gp_get 0 hm675157 he675174 dr_cX14_row_91 (gk_X15 D I) (Nat.le_of_ble_eq_true rfl) wr_9_179 rfl ?_
        refine G_if_ne 98 dr_cX14_row_94 (by decide +kernel) (fun hc675177 => ?_) (fun hc675177 => ?_)
        · have r675178 : o675146.toInt ≠ 0 := gj_neq hc675177 (show Int32.toInt 0 = 0 by decide)
          have bo675146' : gB o675146 1 14 := ⟨by omega, by omega⟩
          refine G_aload_n 0 dr_cX14_row_98 rfl ?_
          refine Gw_callV (As := []) (gV_ok D I) (cp_671599_Reader_next l hl0 D I P675150 F675167 q674905 q674907 p674908 o675085 o675086 o675087 o675088 o675027 q675089 p674915 p674916 p674917 qo674918 qo674919 p674920 f674928 hm675156 hm675158 he675170 he675171 bp674908 bo675085 (gB_w bo675086' (by decide) (by decide)) bo675087 bo675027 bp674915 bp674916 bp674917 bp674920 bf674928 (by have qa0 : Int32.toInt 0 = 0 := (by decide); omega) (hsb675161 _ x674931) (hsb675161 _ x674932)) dr_cX14_row_99 ⟨wr_7_215, wr_1_32, wr_7_218, by decide, rfl, (Nat.le_of_ble_eq_true rfl), (Nat.le_of_ble_eq_true rfl)⟩ wr_7_217 wr_p_75 hm675156 he675170 rfl (show (16 * (o675085.toInt - p674909.toInt) + 8 : Int).toNat + ((16 * (p674908.toInt - o675085.toInt)).toNat) ≤ ((16 * (p674908.toInt - p674909.toInt)).toNat + 9) by first | omega | decide) (show (160 * (o675085.toInt - p674909.toInt) + 64 : Int).toNat + ((160 * (p674908.toInt - o675085.toInt)).toNat) ≤ ((160 * (p674908.toInt - p674909.toInt)).toNat + 71) by first | omega | decide) (Nat.le_of_ble_eq_true rfl) (fun r675182 w675183 dc675179 ds675180 hp675181 => ?_) (fun _ _ _ _ _ z => z.elim)
          obtain ⟨P675196, F675197, o675184, o675185, o675186, o675187, q675188, xt675195, rfl, rfl, hsb675198, hfr675199, he675200, he675201, hdc, hds, bo675184, bo675185, bo675186, x675189, x675190, x675191, x675192, x675193, ht675194⟩ := hp675181
          have hm675202 : q674905 ∈ P675196 := hsb675198 q674905 hm675156
          have hm675203 : q674906 ∈ P675196 := hsb675198 q674906 hm675157
          have hm675204 : q674907 ∈ P675196 := hsb675198 q674907 hm675158
          have hm675205 : q675089 ∈ P675196 := hsb675198 q675089 hm675159
          have hm675206 : q675131 ∈ P675196 := hsb675198 q675131 hm675160
          have hsb675207 : rSub P674903 P675196 := rSub_tr hsb675161 hsb675198
          have he675208 : F675197 q674906 = .inr (20, [.int o675146, .int p674912, .int o675090, .int o675091, .int p674925, .int o675092, .int o675093]) := (hfr675199 q674906 hm675157 (nm_c (rn_oo he675174 he675170 (by decide)) nm_n)).trans he675174
          have he675209 : F675197 q675089 = .inr (0, [.ref q675131, .int 0, .int p675132, .int p675133]) := (hfr675199 q675089 hm675159 (nm_c (rn_oo he675172 he675170 (by decide)) nm_n)).trans he675172
          have he675210 : F675197 q675131 = .inl (I .byte, xt675103.1, .inl xt675103.2) := (hfr675199 q675131 hm675160 (nm_c (rn_ao he675173 he675170) nm_n)).trans he675173
          have hfr675211 : rFr [q674906, q674905] P674903 F674904 F675197 := rFr_call hsb675161 hfr675175 hfr675199 (fun b hb hn => ⟨(nm_c (fun e => hn (e ▸ List.mem_cons_self)) (nm_c (fun e => hn (e ▸ (List.mem_cons_of_mem _ List.mem_cons_self))) nm_n)), (nm_c (fun e => hn (e ▸ (List.mem_cons_of_mem _ List.mem_cons_self))) nm_n)⟩)
          have bo675187 := gB_any o675187
          change G _ _ _ _ _ _ _ _ _ _ _
          refine G_widen (cs' := (16 * (o675085.toInt - p674909.toInt) + 8 : Int).toNat + ((16 * (o675184.toInt - o675085.toInt)).toNat)) (sl' := (160 * (o675085.toInt - p674909.toInt) + 64 : Int).toNat + ((160 * (o675184.toInt - o675085.toInt)).toNat)) (by omega) (by omega) ?_
          have x675212 : p674909.toInt ≤ o675184.toInt := by omega
          have x675213 : p674909.toInt + 2 ≤ o675085.toInt := by have q := (prQ_le x675119 (show nzK o675086 by unfold nzK; omega)); omega
          have x675214 : p674909.toInt + 2 ≤ o675184.toInt := by omega
          have x675215 : prQ o675185 (p674909.toInt + 3) o675184 := prP_q x675190 x675213 (by omega)
          refine G_widen (cs' := (16 * (o675184.toInt - p674909.toInt) + 8 : Int).toNat) (sl' := (160 * (o675184.toInt - p674909.toInt) + 64 : Int).toNat) (by omega) (by omega) ?_
          clear bp675133 bp675132 hm675156 hm675157 hm675158 hm675159 hm675160 hsb675161 he675170 he675171 he675172 he675173 he675174 hfr675175 hsb675198 hfr675199 hm675205 hm675206 he675209 he675210; try clear x674973; try clear x674974; try clear x674975; try clear x674995; try clear x674997; try clear x674998; try clear x675031; try clear x675032; try clear x675052; try clear r675182; try clear w675183; try clear dc675179; try clear ds675180; try clear hp675181
          refine G_aload_n 0 dr_cX14_row_102 rfl ?_
          refine G_aload_n 1 dr_cX14_row_103 rfl ?_
          refine G_iconst 1 dr_cX14_row_104 (by decide +kernel) ?_
          refine Gw_callV (As := [.ref q674906, .int 1]) (gV_ok D I) (cp_673934_Reader_operand l hl0 D I P675196 F675197 q674905 q674906 q674907 1 p674908 o675184 o675185 o675186 o675187 o675086 q675188 p674915 p674916 p674917 qo674918 qo674919 p674920 o675146 p674912 o675090 o675091 p674925 o675092 o675093 f674928 xt675195 hm675202 hm675203 hm675204 he675200 he675208 he675201 (gB_w (gBl (show Int32.toInt 1 = 1 by decide)) (by decide) (by decide)) bp674908 bo675184 bo675185 bo675186 (gB_w bo675086' (by decide) (by decide)) bp674915 bp674916 bp674917 bp674920 (gB_w bo675146' (by decide) (by decide)) (gB_w bv674994 (by decide) (by decide)) bp674925 bo675092 bo675093 bf674928 (by omega) (hsb675207 _ x674931) (hsb675207 _ x674932) x675192 x675193 x675099 x675100 (opP_of (gB_w bo675146' (by decide) (by decide)))) dr_cX14_row_105 ⟨wr_10_89, wr_1_32, wr_10_92, by decide, rfl, (Nat.le_of_ble_eq_true rfl), (Nat.le_of_ble_eq_true rfl)⟩ wr_10_91 wr_p_89 hm675202 he675200 rfl (show (16 * (o675184.toInt - p674909.toInt) + 8 : Int).toNat + ((16 * (p674908.toInt - o675184.toInt)).toNat + 1) ≤ ((16 * (p674908.toInt - p674909.toInt)).toNat + 9) by first | omega | decide) (show (160 * (o675184.toInt - p674909.toInt) + 64 : Int).toNat + ((160 * (p674908.toInt - o675184.toInt)).toNat + 7) ≤ ((160 * (p674908.toInt - p674909.toInt)).toNat + 71) by first | omega | decide) (Nat.le_of_ble_eq_true rfl) (fun r675219 w675220 dc675216 ds675217 hp675218 => ?_) (fun _ qx675232 _ dc675230 ds675231 hx => by obtain ⟨P675228, F675229, rfl, rfl, hsb675221, hfr675222, hq675223, hqn675224, hwr675225, hdc675226, hds675227, x675233, ht675234⟩ := hx; exact GT_outA rfl (show (16 * (o675184.toInt - p674909.toInt) + 8 : Int).toNat + dc675230 ≤ ((16 * (p674908.toInt - p674909.toInt)).toNat + 9) by omega) (show (160 * (o675184.toInt - p674909.toInt) + 64 : Int).toNat + ds675231 ≤ ((160 * (p674908.toInt - p674909.toInt)).toNat + 71) by omega) ⟨P675228, F675229, rfl, rfl, (rSub_tr hsb675207 hsb675221), (show rFr [q674906, q674905] P674903 F674904 F675229 from rFr_call hsb675207 hfr675211 hfr675222 (fun b hb hn => ⟨(nm_c (fun e => hn (e ▸ List.mem_cons_self)) (nm_c (fun e => hn (e ▸ (List.mem_cons_of_mem _ List.mem_cons_self))) nm_n)), nm_n⟩)), hq675223, (fun z => hqn675224 (hsb675207 _ z)), hwr675225, (by omega), (by omega), ⟨o675146, p674912, o675090, o675091, p674925, o675092, o675093, ((hfr675222 q674906 hm675203 nm_n).trans he675208), (gB_w bo675146' (by decide) (by decide)), (gB_w bv674994 (by decide) (by decide)), bp674925, bo675092, bo675093, (opP_of (gB_w bo675146' (by decide) (by decide))), x675099, x675100⟩, (fun R c1 c2 c3 c4 c5 => c4 o674945 xt674981 o674968 o674969 o674970 o674971 xt675038 o675026 o675027 o675028 o675029 o675061 xt675103 o675085 o675086 o675087 o675088 o675090 o675091 o675092 o675093 o675146 xt675195 o675184 o675185 o675186 o675187 bo674945 ht674947 r674949 bo674968 bo674969 bo674970 ht674980 bo675026 bo675027 bo675028 ht675037 bo675061 ht675063 r675065 bo675085 bo675086 bo675087 bo675092 bo675093 ht675102 r675130 bo675146 ht675149 r675178 bo675184 bo675185 bo675186 ht675194 ht675234)⟩)
          obtain ⟨P675254, F675255, o675235, o675236, o675237, o675238, q675239, o675240, o675241, o675242, o675243, xt675253, rfl, rfl, hsb675256, hfr675257, he675258, he675259, he675260, hdc, hds, bo675235, bo675236, bo675237, bo675242, bo675243, x675244, x675245, x675246, x675247, x675248, x675249, x675250, x675251, ht675252⟩ := hp675218
          have hm675261 : q674905 ∈ P675254 := hsb675256 q674905 hm675202
          have hm675262 : q674906 ∈ P675254 := hsb675256 q674906 hm675203
          have hm675263 : q674907 ∈ P675254 := hsb675256 q674907 hm675204
          have hsb675264 : rSub P674903 P675254 := rSub_tr hsb675207 hsb675256
          have hfr675265 : rFr [q674906, q674905] P674903 F674904 F675255 := rFr_call hsb675207 hfr675211 hfr675257 (fun b hb hn => ⟨(nm_c (fun e => hn (e ▸ List.mem_cons_self)) (nm_c (fun e => hn (e ▸ (List.mem_cons_of_mem _ List.mem_cons_self))) nm_n)), (nm_c (fun e => hn (e ▸ List.mem_cons_self)) (nm_c (fun e => hn (e ▸ (List.mem_cons_of_mem _ List.mem_cons_self))) nm_n))⟩)
          have bo675238 := gB_any o675238
          have bo675240 := gB_any o675240
          have bo675241 := gB_any o675241
          change G _ _ _ _ _ _ _ _ _ _ _
          refine G_widen (cs' := (16 * (o675184.toInt - p674909.toInt) + 8 : Int).toNat + ((16 * (o675235.toInt - o675184.toInt)).toNat)) (sl' := (160 * (o675184.toInt - p674909.toInt) + 64 : Int).toNat + ((160 * (o675235.toInt - o675184.toInt)).toNat)) (by omega) (by omega) ?_
          have x675266 : p674909.toInt + 2 ≤ o675184.toInt := by have q := (prQ_le x675215 x675251); omega
          have x675267 : p674909.toInt + 2 ≤ o675235.toInt := by omega
          have x675268 : prQ o675236 (p674909.toInt + 3) o675235 := prP_q x675245 x675266 (by omega)
          exact G_vretA dr_cX14_row_108 rfl (show (16 * (o675184.toInt - p674909.toInt) + 8 : Int).toNat + ((16 * (o675235.toInt - o675184.toInt)).toNat) ≤ ((16 * (p674908.toInt - p674909.toInt)).toNat + 9) by omega) (show (160 * (o675184.toInt - p674909.toInt) + 64 : Int).toNat + ((160 * (o675235.toInt - o675184.toInt)).toNat) ≤ ((160 * (p674908.toInt - p674909.toInt)).toNat + 71) by omega) ⟨P675254, F675255, o675235, o675236, o675237, o675238, o675185, q675239, o675146, p674912, o675240, o675241, o675242, o675243, xt675253, rfl, rfl, hsb675264, hfr675265, he675258, he675259, he675260, (by omega), (by omega), bo675235, bo675236, bo675237, bo675185, (gB_w bo675146' (by decide) (by decide)), (gB_w bv674994 (by decide) (by decide)), bo675242, bo675243, (by omega), (prP_le x675245 (by omega)), (by omega), x675247, x675248, x675249, x675250, (opP_of (gB_w bo675146' (by decide) (by decide))), (Or.inl (by omega)), (show nzK p674910 by unfold nzK; omega), ⟨by omega, Or.inr (by omega)⟩, (fun R c1 c2 c3 c4 c5 => c2 o674945 xt674981 o674968 o674969 o674970 o674971 xt675038 o675026 o675027 o675028 o675029 o675061 xt675103 o675085 o675086 o675087 o675088 o675090 o675091 o675092 o675093 o675146 xt675195 o675184 o675185 o675186 o675187 xt675253 o675235 o675236 o675237 o675238 o675240 o675241 o675242 o675243 bo674945 ht674947 r674949 bo674968 bo674969 bo674970 ht674980 bo675026 bo675027 bo675028 ht675037 bo675061 ht675063 r675065 bo675085 bo675086 bo675087 bo675092 bo675093 ht675102 r675130 bo675146 ht675149 r675178 bo675184 bo675185 bo675186 ht675194 bo675235 bo675236 bo675237 bo675242 bo675243 ht675252)⟩
        · have r675269 : o675146.toInt = 0 := gj_eq hc675177 (show Int32.toInt 0 = 0 by decide)
          have bo675146' : gB o675146 0 0 := ⟨by omega, by omega⟩
          exact G_vretA dr_cX14_row_97 rfl (show (16 * (o675085.toInt - p674909.toInt) + 8 : Int).toNat ≤ ((16 * (p674908.toInt - p674909.toInt)).toNat + 9) by omega) (show (160 * (o675085.toInt - p674909.toInt) + 64 : Int).toNat ≤ ((160 * (p674908.toInt - p674909.toInt)).toNat + 71) by omega) ⟨P675150, F675167, o675085, o675086, o675087, o675088, o675027, q675089, o675146, p674912, o675090, o675091, o675092, o675093, (xt675103.1, xt675103.2), rfl, rfl, hsb675161, hfr675175, he675174, he675170, he675171, (by omega), (by omega), bo675085, (gB_w bo675086' (by decide) (by decide)), bo675087, bo675027, (gB_w bo675146' (by decide) (by decide)), (gB_w bv674994 (by decide) (by decide)), bo675092, bo675093, (by have qa0 : Int32.toInt 0 = 0 := (by decide); omega), (prP_le x675095 (by omega)), (by have qa0 : Int32.toInt 0 = 0 := (by decide); omega), tp675176, x675098, x675099, x675100, (opP_of (gB_w bo675146' (by decide) (by decide))), (Or.inl (by omega)), (show nzK p674910 by unfold nzK; omega), ⟨by omega, Or.inr (by omega)⟩, (fun R c1 c2 c3 c4 c5 => c3 o674945 xt674981 o674968 o674969 o674970 o674971 xt675038 o675026 o675027 o675028 o675029 o675061 xt675103 o675085 o675086 o675087 o675088 o675090 o675091 o675092 o675093 o675146 bo674945 ht674947 r674949 bo674968 bo674969 bo674970 ht674980 bo675026 bo675027 bo675028 ht675037 bo675061 ht675063 r675065 bo675085 bo675086 bo675087 bo675092 bo675093 ht675102 r675130 bo675146 ht675149 r675269)⟩
    · have r675270 : o675061.toInt ≠ 0 := gj_neq hc675064 (show Int32.toInt 0 = 0 by decide)
      have bo675061' : gB o675061 1 1 := ⟨by omega, by omega⟩
      refine G_aload_n 0 dr_cX14_row_50 rfl ?_
      refine Gw_callV (As := []) (gV_ok D I) (cp_671599_Reader_next l hl0 D I P675039 F675040 q674905 q674907 p674908 o675026 o675027 o675028 o675029 o674969 q675030 p674915 p674916 p674917 qo674918 qo674919 p674920 f674928 hm675045 hm675047 he675043 he675044 bp674908 bo675026 bo675027 bo675028 bo674969 bp674915 bp674916 bp674917 bp674920 bf674928 (by omega) (hsb675048 _ x674931) (hsb675048 _ x674932)) dr_cX14_row_51 ⟨wr_7_215, wr_1_32, wr_7_218, by decide, rfl, (Nat.le_of_ble_eq_true rfl), (Nat.le_of_ble_eq_true rfl)⟩ wr_7_217 wr_p_75 hm675045 he675043 rfl (show (16 * (o675026.toInt - p674909.toInt) + 0 : Int).toNat + 0 + ((16 * (p674908.toInt - o675026.toInt)).toNat) ≤ ((16 * (p674908.toInt - p674909.toInt)).toNat + 9) by first | omega | decide) (show (160 * (o675026.toInt - p674909.toInt) + 0 : Int).toNat + 0 + ((160 * (p674908.toInt - o675026.toInt)).toNat) ≤ ((160 * (p674908.toInt - p674909.toInt)).toNat + 71) by first | omega | decide) (Nat.le_of_ble_eq_true rfl) (fun r675274 w675275 dc675271 ds675272 hp675273 => ?_) (fun _ _ _ _ _ z => z.elim)
      obtain ⟨P675288, F675289, o675276, o675277, o675278, o675279, q675280, xt675287, rfl, rfl, hsb675290, hfr675291, he675292, he675293, hdc, hds, bo675276, bo675277, bo675278, x675281, x675282, x675283, x675284, x675285, ht675286⟩ := hp675273
      have hm675294 : q674905 ∈ P675288 := hsb675290 q674905 hm675045
      have hm675295 : q674906 ∈ P675288 := hsb675290 q674906 hm675046
      have hm675296 : q674907 ∈ P675288 := hsb675290 q674907 hm675047
      have hsb675297 : rSub P674903 P675288 := rSub_tr hsb675048 hsb675290
      have he675298 : F675289 q674906 = .inr (20, [.int p674921, .int p674912, .int p674923, .int p674924, .int p674925, .int p674926, .int p674927]) := (hfr675291 q674906 hm675046 (nm_c (rn_oo he675049 he675043 (by decide)) nm_n)).trans he675049
      have hfr675299 : rFr [q674906, q674905] P674903 F674904 F675289 := rFr_call hsb675048 hfr675050 hfr675291 (fun b hb hn => ⟨(nm_c (fun e => hn (e ▸ List.mem_cons_self)) (nm_c (fun e => hn (e ▸ (List.mem_cons_of_mem _ List.mem_cons_self))) nm_n)), (nm_c (fun e => hn (e ▸ (List.mem_cons_of_mem _ List.mem_cons_self))) nm_n)⟩)
      have bo675279 := gB_any o675279
      change G _ _ _ _ _ _ _ _ _ _ _
      refine G_widen (cs' := (16 * (o675026.toInt - p674909.toInt) + 0 : Int).toNat + 0 + ((16 * (o675276.toInt - o675026.toInt)).toNat)) (sl' := (160 * (o675026.toInt - p674909.toInt) + 0 : Int).toNat + 0 + ((160 * (o675276.toInt - o675026.toInt)).toNat)) (by omega) (by omega) ?_
      have x675300 : p674909.toInt ≤ o675276.toInt := by omega
      have x675301 : p674909.toInt + 2 ≤ o675026.toInt := by have q := (prQ_le x675054 (isK_1 x675062 (by omega))); omega
      have x675302 : p674909.toInt + 2 ≤ o675276.toInt := by omega
      have x675303 : prQ o675277 (p674909.toInt + 3) o675276 := prP_q x675282 x675301 (by omega)
      refine G_widen (cs' := (16 * (o675276.toInt - p674909.toInt) + 0 : Int).toNat) (sl' := (160 * (o675276.toInt - p674909.toInt) + 0 : Int).toNat) (by omega) (by omega) ?_
      clear he675043 he675044 hm675045 hm675046 hm675047 hsb675048 he675049 hfr675050 hsb675290 hfr675291; try clear r675059; try clear w675060; try clear dc675056; try clear ds675057; try clear hp675058; try clear r675274; try clear w675275; try clear dc675271; try clear ds675272; try clear hp675273
      refine G_aload_n 1 dr_cX14_row_54 rfl ?_
      refine G_bipush 20 dr_cX14_row_55 (by decide +kernel) ?_
      refine Gp_put 0 hm675295 he675298 dr_cX14_row_57 (gk_X15 D I) (Nat.le_of_ble_eq_true rfl) wr_9_179 rfl rfl rfl (Nat.le_of_ble_eq_true rfl) (fun F675304 e675305 n675306 => ?_)
      have he675307 : F675304 q674905 = .inr (19, [.ref q674907, .int p674908, .int o675276, .int o675277, .int o675278, .int o675279, .int o675027, .ref q675280, .int p674915, .int p674916, .int p674917, .ref qo674918, .ref qo674919, .int p674920]) := (n675306 q674905 (rn_oo he675292 he675298 (by decide))).trans he675292
      have he675308 : F675304 q674907 = .inl (I .byte, 8192, .inl f674928) := (n675306 q674907 (rn_ao he675293 he675298)).trans he675293
      have he675309 : F675304 q674906 = .inr (20, [.int 20, .int p674912, .int p674923, .int p674924, .int p674925, .int p674926, .int p674927]) := e675305
      have hfr675310 : rFr [q674906, q674905] P674903 F674904 F675304 := rFr_put' List.mem_cons_self hfr675299 n675306
      have tp675311 : tP I P675288 F675304 o675277 q675280 qo674919 qo674918 xt675287 := tP_put x675284 he675298 (by decide) n675306
      exact G_vretA dr_cX14_row_60 rfl (show (16 * (o675276.toInt - p674909.toInt) + 0 : Int).toNat ≤ ((16 * (p674908.toInt - p674909.toInt)).toNat + 9) by omega) (show (160 * (o675276.toInt - p674909.toInt) + 0 : Int).toNat ≤ ((160 * (p674908.toInt - p674909.toInt)).toNat + 71) by omega) ⟨P675288, F675304, o675276, o675277, o675278, o675279, o675027, q675280, 20, p674912, p674923, p674924, p674926, p674927, xt675287, rfl, rfl, hsb675297, hfr675310, he675309, he675307, he675308, (by omega), (by omega), bo675276, bo675277, bo675278, bo675027, (gB_w (gBl (show Int32.toInt 20 = 20 by decide)) (by decide) (by decide)), (gB_w bv674994 (by decide) (by decide)), bp674926, bp674927, (by have qa0 : Int32.toInt 20 = 20 := (by decide); omega), (prP_le x675282 (by omega)), (by have qa0 : Int32.toInt 20 = 20 := (by decide); omega), tp675311, x675285, x674935, x674936, (Or.inr (by decide)), (Or.inr (Or.inl (by decide))), (show nzK p674910 by unfold nzK; omega), ⟨by omega, Or.inr (by omega)⟩, (fun R c1 c2 c3 c4 c5 => c4 o674945 xt674981 o674968 o674969 o674970 o674971 xt675038 o675026 o675027 o675028 o675029 o675061 xt675287 o675276 o675277 o675278 o675279 bo674945 ht674947 r674949 bo674968 bo674969 bo674970 ht674980 bo675026 bo675027 bo675028 ht675037 bo675061 ht675063 r675270 bo675276 bo675277 bo675278 ht675286)⟩
  · have r675312 : o674945.toInt ≠ 0 := gj_neq hc674948 (show Int32.toInt 0 = 0 by decide)
    have bo674945' : gB o674945 1 1 := ⟨by omega, by omega⟩
    refine G_aload_n 0 dr_cX14_row_9 rfl ?_
    refine Gw_callV (As := []) (gV_ok D I) (cp_671599_Reader_next l hl0 D I P674903 F674904 q674905 q674907 p674908 p674909 p674910 p674911 p674912 p674913 qo674914 p674915 p674916 p674917 qo674918 qo674919 p674920 f674928 hmq674905 hmq674907 heq674905 heq674907 bp674908 bp674909 bp674910 bp674911 bp674913 bp674915 bp674916 bp674917 bp674920 bf674928 (by omega) x674931 x674932) dr_cX14_row_10 ⟨wr_7_215, wr_1_32, wr_7_218, by decide, rfl, (Nat.le_of_ble_eq_true rfl), (Nat.le_of_ble_eq_true rfl)⟩ wr_7_217 wr_p_75 hmq674905 heq674905 rfl (show 0 + ((16 * (p674908.toInt - p674909.toInt)).toNat) ≤ ((16 * (p674908.toInt - p674909.toInt)).toNat + 9) by first | omega | decide) (show 0 + ((160 * (p674908.toInt - p674909.toInt)).toNat) ≤ ((160 * (p674908.toInt - p674909.toInt)).toNat + 71) by first | omega | decide) (Nat.le_of_ble_eq_true rfl) (fun r675316 w675317 dc675313 ds675314 hp675315 => ?_) (fun _ _ _ _ _ z => z.elim)
    obtain ⟨P675330, F675331, o675318, o675319, o675320, o675321, q675322, xt675329, rfl, rfl, hsb675332, hfr675333, he675334, he675335, hdc, hds, bo675318, bo675319, bo675320, x675323, x675324, x675325, x675326, x675327, ht675328⟩ := hp675315
    have hm675336 : q674905 ∈ P675330 := hsb675332 q674905 hmq674905
    have hm675337 : q674906 ∈ P675330 := hsb675332 q674906 hmq674906
    have hm675338 : q674907 ∈ P675330 := hsb675332 q674907 hmq674907
    have hsb675339 : rSub P674903 P675330 := rSub_tr (rSub_rf (P := P674903)) hsb675332
    have he675340 : F675331 q674906 = .inr (20, [.int p674921, .int p674922, .int p674923, .int p674924, .int p674925, .int p674926, .int p674927]) := (hfr675333 q674906 hmq674906 (nm_c (rn_oo heq674906 heq674905 (by decide)) nm_n)).trans heq674906
    have hfr675341 : rFr [q674905] P674903 F674904 F675331 := rFr_call (rSub_rf (P := P674903)) (rFr_rf (W := []) (P := P674903) (F := F674904)) hfr675333 (fun b hb hn => ⟨nm_n, (nm_c (fun e => hn (e ▸ List.mem_cons_self)) nm_n)⟩)
    have bo675321 := gB_any o675321
    change G _ _ _ _ _ _ _ _ _ _ _
    refine G_widen (cs' := (16 * (o675318.toInt - p674909.toInt)).toNat) (sl' := (160 * (o675318.toInt - p674909.toInt)).toNat) (by omega) (by omega) ?_
    have x675342 : p674909.toInt ≤ o675318.toInt := by omega
    have x675343 : p674909.toInt + 0 ≤ p674909.toInt := by omega
    have x675344 : p674909.toInt + 0 ≤ o675318.toInt := by omega
    have x675345 : prQ o675319 (p674909.toInt + 1) o675318 := prP_q x675324 x675343 (by omega)
    refine G_widen (cs' := (16 * (o675318.toInt - p674909.toInt) + 0 : Int).toNat) (sl' := (160 * (o675318.toInt - p674909.toInt) + 0 : Int).toNat) (by omega) (by omega) ?_
    clear hsb675332 hfr675333; try clear r674943; try clear w674944; try clear dc674940; try clear ds674941; try clear hp674942; try clear r675316; try clear w675317; try clear dc675313; try clear ds675314; try clear hp675315
    refine G_aload_n 1 dr_cX14_row_13 rfl ?_
    refine G_bipush 22 dr_cX14_row_14 (by decide +kernel) ?_
    refine Gp_put 0 hm675337 he675340 dr_cX14_row_16 (gk_X15 D I) (Nat.le_of_ble_eq_true rfl) wr_9_179 rfl rfl rfl (Nat.le_of_ble_eq_true rfl) (fun F675346 e675347 n675348 => ?_)
    have he675349 : F675346 q674905 = .inr (19, [.ref q674907, .int p674908, .int o675318, .int o675319, .int o675320, .int o675321, .int p674910, .ref q675322, .int p674915, .int p674916, .int p674917, .ref qo674918, .ref qo674919, .int p674920]) := (n675348 q674905 (rn_oo he675334 he675340 (by decide))).trans he675334
    have he675350 : F675346 q674907 = .inl (I .byte, 8192, .inl f674928) := (n675348 q674907 (rn_ao he675335 he675340)).trans he675335
    have he675351 : F675346 q674906 = .inr (20, [.int 22, .int p674922, .int p674923, .int p674924, .int p674925, .int p674926, .int p674927]) := e675347
    have hfr675352 : rFr [q674906, q674905] P674903 F674904 F675346 := rFr_put hfr675341 n675348
    have tp675353 : tP I P675330 F675346 o675319 q675322 qo674919 qo674918 xt675329 := tP_put x675326 he675340 (by decide) n675348
    refine G_aload_n 0 dr_cX14_row_19 rfl ?_
    refine G_aload_n 1 dr_cX14_row_20 rfl ?_
    refine G_iconst 0 dr_cX14_row_21 (by decide +kernel) ?_
    refine Gw_callV (As := [.ref q674906, .int 0]) (gV_ok D I) (cp_673934_Reader_operand l hl0 D I P675330 F675346 q674905 q674906 q674907 0 p674908 o675318 o675319 o675320 o675321 p674910 q675322 p674915 p674916 p674917 qo674918 qo674919 p674920 22 p674922 p674923 p674924 p674925 p674926 p674927 f674928 xt675329 hm675336 hm675337 hm675338 he675349 he675351 he675350 (gB_w (gBl (show Int32.toInt 0 = 0 by decide)) (by decide) (by decide)) bp674908 bo675318 bo675319 bo675320 bp674910 bp674915 bp674916 bp674917 bp674920 (gB_w (gBl (show Int32.toInt 22 = 22 by decide)) (by decide) (by decide)) bp674922 bp674925 bp674926 bp674927 bf674928 (by have qa0 : Int32.toInt 22 = 22 := (by decide); omega) (hsb675339 _ x674931) (hsb675339 _ x674932) tp675353 x675327 x674935 x674936 (Or.inr (by decide))) dr_cX14_row_22 ⟨wr_10_89, wr_1_32, wr_10_92, by decide, rfl, (Nat.le_of_ble_eq_true rfl), (Nat.le_of_ble_eq_true rfl)⟩ wr_10_91 wr_p_89 hm675336 he675349 rfl (show (16 * (o675318.toInt - p674909.toInt) + 0 : Int).toNat + ((16 * (p674908.toInt - o675318.toInt)).toNat + 1) ≤ ((16 * (p674908.toInt - p674909.toInt)).toNat + 9) by first | omega | decide) (show (160 * (o675318.toInt - p674909.toInt) + 0 : Int).toNat + ((160 * (p674908.toInt - o675318.toInt)).toNat + 7) ≤ ((160 * (p674908.toInt - p674909.toInt)).toNat + 71) by first | omega | decide) (Nat.le_of_ble_eq_true rfl) (fun r675357 w675358 dc675354 ds675355 hp675356 => ?_) (fun _ qx675370 _ dc675368 ds675369 hx => by obtain ⟨P675366, F675367, rfl, rfl, hsb675359, hfr675360, hq675361, hqn675362, hwr675363, hdc675364, hds675365, x675371, ht675372⟩ := hx; exact GT_outA rfl (show (16 * (o675318.toInt - p674909.toInt) + 0 : Int).toNat + dc675368 ≤ ((16 * (p674908.toInt - p674909.toInt)).toNat + 9) by omega) (show (160 * (o675318.toInt - p674909.toInt) + 0 : Int).toNat + ds675369 ≤ ((160 * (p674908.toInt - p674909.toInt)).toNat + 71) by omega) ⟨P675366, F675367, rfl, rfl, (rSub_tr hsb675339 hsb675359), (show rFr [q674906, q674905] P674903 F674904 F675367 from rFr_call hsb675339 hfr675352 hfr675360 (fun b hb hn => ⟨(nm_c (fun e => hn (e ▸ List.mem_cons_self)) (nm_c (fun e => hn (e ▸ (List.mem_cons_of_mem _ List.mem_cons_self))) nm_n)), nm_n⟩)), hq675361, (fun z => hqn675362 (hsb675339 _ z)), hwr675363, (by omega), (by omega), ⟨22, p674922, p674923, p674924, p674925, p674926, p674927, ((hfr675360 q674906 hm675337 nm_n).trans he675351), (gB_w (gBl (show Int32.toInt 22 = 22 by decide)) (by decide) (by decide)), bp674922, bp674925, bp674926, bp674927, (Or.inr (by decide)), x674935, x674936⟩, (fun R c1 c2 c3 c4 c5 => c5 o674945 xt675329 o675318 o675319 o675320 o675321 bo674945 ht674947 r675312 bo675318 bo675319 bo675320 ht675328 ht675372)⟩)
    obtain ⟨P675392, F675393, o675373, o675374, o675375, o675376, q675377, o675378, o675379, o675380, o675381, xt675391, rfl, rfl, hsb675394, hfr675395, he675396, he675397, he675398, hdc, hds, bo675373, bo675374, bo675375, bo675380, bo675381, x675382, x675383, x675384, x675385, x675386, x675387, x675388, x675389, ht675390⟩ := hp675356
    have hm675399 : q674905 ∈ P675392 := hsb675394 q674905 hm675336
    have hm675400 : q674906 ∈ P675392 := hsb675394 q674906 hm675337
    have hm675401 : q674907 ∈ P675392 := hsb675394 q674907 hm675338
    have hsb675402 : rSub P674903 P675392 := rSub_tr hsb675339 hsb675394
    have hfr675403 : rFr [q674906, q674905] P674903 F674904 F675393 := rFr_call hsb675339 hfr675352 hfr675395 (fun b hb hn => ⟨(nm_c (fun e => hn (e ▸ List.mem_cons_self)) (nm_c (fun e => hn (e ▸ (List.mem_cons_of_mem _ List.mem_cons_self))) nm_n)), (nm_c (fun e => hn (e ▸ List.mem_cons_self)) (nm_c (fun e => hn (e ▸ (List.mem_cons_of_mem _ List.mem_cons_self))) nm_n))⟩)
    have bo675376 := gB_any o675376
    have bo675378 := gB_any o675378
    have bo675379 := gB_any o675379
    change G _ _ _ _ _ _ _ _ _ _ _
    refine G_widen (cs' := (16 * (o675318.toInt - p674909.toInt) + 0 : Int).toNat + ((16 * (o675373.toInt - o675318.toInt)).toNat)) (sl' := (160 * (o675318.toInt - p674909.toInt) + 0 : Int).toNat + ((160 * (o675373.toInt - o675318.toInt)).toNat)) (by omega) (by omega) ?_
    have x675404 : p674909.toInt + 1 ≤ o675318.toInt := by have q := (prQ_le x675345 x675389); omega
    have x675405 : p674909.toInt + 1 ≤ o675373.toInt := by omega
    have x675406 : prQ o675374 (p674909.toInt + 2) o675373 := prP_q x675383 x675404 (by omega)
    exact G_vretA dr_cX14_row_25 rfl (show (16 * (o675318.toInt - p674909.toInt) + 0 : Int).toNat + ((16 * (o675373.toInt - o675318.toInt)).toNat) ≤ ((16 * (p674908.toInt - p674909.toInt)).toNat + 9) by omega) (show (160 * (o675318.toInt - p674909.toInt) + 0 : Int).toNat + ((160 * (o675373.toInt - o675318.toInt)).toNat) ≤ ((160 * (p674908.toInt - p674909.toInt)).toNat + 71) by omega) ⟨P675392, F675393, o675373, o675374, o675375, o675376, o675319, q675377, 22, p674922, o675378, o675379, o675380, o675381, xt675391, rfl, rfl, hsb675402, hfr675403, he675396, he675397, he675398, (by omega), (by omega), bo675373, bo675374, bo675375, bo675319, (gB_w (gBl (show Int32.toInt 22 = 22 by decide)) (by decide) (by decide)), bp674922, bo675380, bo675381, (by have qa0 : Int32.toInt 22 = 22 := (by decide); omega), (prP_le x675383 (by omega)), (by have qa0 : Int32.toInt 22 = 22 := (by decide); omega), x675385, x675386, x675387, x675388, (Or.inr (by decide)), (Or.inr (Or.inr (by decide))), (isK_1 x674946 (by omega)), ⟨by omega, x675406⟩, (fun R c1 c2 c3 c4 c5 => c5 o674945 xt675329 o675318 o675319 o675320 o675321 xt675391 o675373 o675374 o675375 o675376 o675378 o675379 o675380 o675381 bo674945 ht674947 r675312 bo675318 bo675319 bo675320 ht675328 bo675373 bo675374 bo675375 bo675380 bo675381 ht675390)⟩
/- tr_RReader_end: a.0...at, a.0...kind, a.0...place, a.0...value, a.0...before, a.0...goalN, a.1...first, a.1...second, a.0.goalPlaces.#, a.0.goalPlaces.[], a.0.goals.#, a.0.goals.[], a.1.end...op, a.1.end...a, a.1.end...b, a.1.end...regA, a.1.end...regB -/
def tr_RReader_end (a0_n : Int32) (a0_at : Int32) (a0_kind : Int32) (a0_value : Int32) (a0_goalN : Int32) (a0_t_v : Nat → Int32) (p : Nat → Int32) (p2 : Nat) (p3 : Nat → Int32) (p4 : Nat) (a1_end_b : Int32) (a1_end_regB : Int32) (xt : gTx) (o1 : Int32) (o2 : Int32) (o3 : Int32) (o4 : Int32) (o5 : Int32) (o6 : Int32) (o7 : Int32) (o8 : Int32) (o9 : Nat) (o10 : Nat → Int32) (o11 : Nat) (o12 : Nat → Int32) (o13 : Int32) (o14 : Int32) (o15 : Int32) (o16 : Int32) (o17 : Int32) (o18 : gTx) : Prop := ∀ R : (Int32) → (Int32) → (Int32) → (Int32) → (Int32) → (Int32) → (Int32) → (Int32) → (Nat) → (Nat → Int32) → (Nat) → (Nat → Int32) → (Int32) → (Int32) → (Int32) → (Int32) → (Int32) → (gTx) → Prop,
  (∀ (x1 : Int32) (x2 : Int32) (x3 : Int32) (x4 : gTx) (x5 : Int32) (x6 : Int32) (x7 : Int32) (x8 : Int32) (x9 : gTx) (x10 : Int32) (x11 : Int32) (x12 : Int32) (x13 : Int32) (x14 : Int32) (x15 : Int32) (x16 : Int32) (x17 : Int32), gB x1 0 1 → tr_RReader_is sb_44 a0_kind xt x1 → x1.toInt = 0 → gB x2 0 1 → tr_RReader_is sb_45 a0_kind xt x2 → x2.toInt = 0 → gB x3 0 1 → tr_RReader_is sb_46 a0_kind xt x3 → x3.toInt ≠ 0 → gB x5 0 8192 → gB x6 0 6 → gB x7 0 8192 → tr_RReader_next a0_n a0_at a0_kind a0_value a0_t_v x5 x6 x7 x8 x4 → gB x10 0 8192 → gB x11 0 6 → gB x12 0 8192 → gB x16 0 1 → gB x17 0 1 → tr_RReader_operand (0 : Int32) a0_n x5 x6 x8 (0 : Int32) a1_end_b (0 : Int32) a1_end_regB a0_t_v x10 x11 x12 x13 x14 x15 x16 x17 x9 → R x10 x11 x12 x13 x6 a0_goalN (0 : Int32) (0 : Int32) p2 p p4 p3 (32 : Int32) x14 x15 x16 x17 x9) →
  (∀ (x1 : Int32) (x2 : Int32) (x3 : gTx) (x4 : Int32) (x5 : Int32) (x6 : Int32) (x7 : Int32) (x8 : gTx) (x9 : Int32) (x10 : Int32) (x11 : Int32) (x12 : Int32) (x13 : Int32) (x14 : Int32) (x15 : Int32) (x16 : Int32) (x17 : gTx) (x18 : Int32) (x19 : Int32) (x20 : Int32) (x21 : Int32) (x22 : Int32) (x23 : Nat) (x24 : Nat → Int32) (x25 : Nat) (x26 : Nat → Int32) (x27 : gTx) (x28 : Int32) (x29 : Int32) (x30 : Int32) (x31 : Int32) (x32 : Int32) (x33 : Nat) (x34 : Nat → Int32) (x35 : Nat) (x36 : Nat → Int32), gB x1 0 1 → tr_RReader_is sb_44 a0_kind xt x1 → x1.toInt = 0 → gB x2 0 1 → tr_RReader_is sb_45 a0_kind xt x2 → x2.toInt ≠ 0 → gB x4 0 8192 → gB x5 0 6 → gB x6 0 8192 → tr_RReader_next a0_n a0_at a0_kind a0_value a0_t_v x4 x5 x6 x7 x3 → gB x9 0 8192 → gB x10 0 6 → gB x11 0 8192 → gB x15 0 1 → gB x16 0 1 → tr_RReader_operand (0 : Int32) a0_n x4 x5 x7 (0 : Int32) a1_end_b (0 : Int32) a1_end_regB a0_t_v x9 x10 x11 x12 x13 x14 x15 x16 x8 → gB x18 0 8192 → gB x19 0 6 → gB x20 0 8192 → gB x22 1 1000000 → tr_RReader_goal a0_n x9 x10 x11 x12 a0_goalN a0_t_v p p2 p3 p4 x18 x19 x20 x21 x22 x23 x24 x25 x26 x17 → gB x28 0 8192 → gB x29 0 6 → gB x30 0 8192 → gB x32 1 1000000 → tr_RReader_goal a0_n x18 x19 x20 x21 x22 a0_t_v x24 x23 x26 x25 x28 x29 x30 x31 x32 x33 x34 x35 x36 x27 → R x28 x29 x30 x31 x19 x32 x12 x21 x33 x34 x35 x36 (31 : Int32) x13 x14 x15 x16 x27) →
  (∀ (x1 : Int32) (x2 : gTx) (x3 : Int32) (x4 : Int32) (x5 : Int32) (x6 : Int32) (x7 : gTx) (x8 : Int32) (x9 : Int32) (x10 : Int32) (x11 : Int32) (x12 : Int32) (x13 : Nat) (x14 : Nat → Int32) (x15 : Nat) (x16 : Nat → Int32), gB x1 0 1 → tr_RReader_is sb_44 a0_kind xt x1 → x1.toInt ≠ 0 → gB x3 0 8192 → gB x4 0 6 → gB x5 0 8192 → tr_RReader_next a0_n a0_at a0_kind a0_value a0_t_v x3 x4 x5 x6 x2 → gB x8 0 8192 → gB x9 0 6 → gB x10 0 8192 → gB x12 1 1000000 → tr_RReader_goal a0_n x3 x4 x5 x6 a0_goalN a0_t_v p p2 p3 p4 x8 x9 x10 x11 x12 x13 x14 x15 x16 x7 → R x8 x9 x10 x11 x4 x12 x6 x6 x13 x14 x15 x16 (30 : Int32) (0 : Int32) a1_end_b (0 : Int32) a1_end_regB x7) →
  R o1 o2 o3 o4 o5 o6 o7 o8 o9 o10 o11 o12 o13 o14 o15 o16 o17 o18
/- tx_RReader_end: throws -/
def tx_RReader_end (a0_n : Int32) (a0_at : Int32) (a0_kind : Int32) (a0_value : Int32) (a0_goalN : Int32) (a0_t_v : Nat → Int32) (p : Nat → Int32) (p2 : Nat) (p3 : Nat → Int32) (p4 : Nat) (a1_end_b : Int32) (a1_end_regB : Int32) (xt : gTx) : Prop := ∀ R : Prop,
  (∀ (x1 : Int32) (x2 : Int32) (x3 : Int32), gB x1 0 1 → tr_RReader_is sb_44 a0_kind xt x1 → x1.toInt = 0 → gB x2 0 1 → tr_RReader_is sb_45 a0_kind xt x2 → x2.toInt = 0 → gB x3 0 1 → tr_RReader_is sb_46 a0_kind xt x3 → x3.toInt = 0 → R) →
  (∀ (x1 : Int32) (x2 : Int32) (x3 : Int32) (x4 : gTx) (x5 : Int32) (x6 : Int32) (x7 : Int32) (x8 : Int32), gB x1 0 1 → tr_RReader_is sb_44 a0_kind xt x1 → x1.toInt = 0 → gB x2 0 1 → tr_RReader_is sb_45 a0_kind xt x2 → x2.toInt = 0 → gB x3 0 1 → tr_RReader_is sb_46 a0_kind xt x3 → x3.toInt ≠ 0 → gB x5 0 8192 → gB x6 0 6 → gB x7 0 8192 → tr_RReader_next a0_n a0_at a0_kind a0_value a0_t_v x5 x6 x7 x8 x4 → tx_RReader_operand x6 → R) →
  (∀ (x1 : Int32) (x2 : Int32) (x3 : gTx) (x4 : Int32) (x5 : Int32) (x6 : Int32) (x7 : Int32), gB x1 0 1 → tr_RReader_is sb_44 a0_kind xt x1 → x1.toInt = 0 → gB x2 0 1 → tr_RReader_is sb_45 a0_kind xt x2 → x2.toInt ≠ 0 → gB x4 0 8192 → gB x5 0 6 → gB x6 0 8192 → tr_RReader_next a0_n a0_at a0_kind a0_value a0_t_v x4 x5 x6 x7 x3 → tx_RReader_operand x5 → R) →
  (∀ (x1 : Int32) (x2 : Int32) (x3 : gTx) (x4 : Int32) (x5 : Int32) (x6 : Int32) (x7 : Int32) (x8 : gTx) (x9 : Int32) (x10 : Int32) (x11 : Int32) (x12 : Int32) (x13 : Int32) (x14 : Int32) (x15 : Int32) (x16 : Int32), gB x1 0 1 → tr_RReader_is sb_44 a0_kind xt x1 → x1.toInt = 0 → gB x2 0 1 → tr_RReader_is sb_45 a0_kind xt x2 → x2.toInt ≠ 0 → gB x4 0 8192 → gB x5 0 6 → gB x6 0 8192 → tr_RReader_next a0_n a0_at a0_kind a0_value a0_t_v x4 x5 x6 x7 x3 → gB x9 0 8192 → gB x10 0 6 → gB x11 0 8192 → gB x15 0 1 → gB x16 0 1 → tr_RReader_operand (0 : Int32) a0_n x4 x5 x7 (0 : Int32) a1_end_b (0 : Int32) a1_end_regB a0_t_v x9 x10 x11 x12 x13 x14 x15 x16 x8 → tx_RReader_goal x10 a0_goalN p p2 p3 p4 → R) →
  (∀ (x1 : Int32) (x2 : Int32) (x3 : gTx) (x4 : Int32) (x5 : Int32) (x6 : Int32) (x7 : Int32) (x8 : gTx) (x9 : Int32) (x10 : Int32) (x11 : Int32) (x12 : Int32) (x13 : Int32) (x14 : Int32) (x15 : Int32) (x16 : Int32) (x17 : gTx) (x18 : Int32) (x19 : Int32) (x20 : Int32) (x21 : Int32) (x22 : Int32) (x23 : Nat) (x24 : Nat → Int32) (x25 : Nat) (x26 : Nat → Int32), gB x1 0 1 → tr_RReader_is sb_44 a0_kind xt x1 → x1.toInt = 0 → gB x2 0 1 → tr_RReader_is sb_45 a0_kind xt x2 → x2.toInt ≠ 0 → gB x4 0 8192 → gB x5 0 6 → gB x6 0 8192 → tr_RReader_next a0_n a0_at a0_kind a0_value a0_t_v x4 x5 x6 x7 x3 → gB x9 0 8192 → gB x10 0 6 → gB x11 0 8192 → gB x15 0 1 → gB x16 0 1 → tr_RReader_operand (0 : Int32) a0_n x4 x5 x7 (0 : Int32) a1_end_b (0 : Int32) a1_end_regB a0_t_v x9 x10 x11 x12 x13 x14 x15 x16 x8 → gB x18 0 8192 → gB x19 0 6 → gB x20 0 8192 → gB x22 1 1000000 → tr_RReader_goal a0_n x9 x10 x11 x12 a0_goalN a0_t_v p p2 p3 p4 x18 x19 x20 x21 x22 x23 x24 x25 x26 x17 → tx_RReader_goal x19 x22 x24 x23 x26 x25 → R) →
  (∀ (x1 : Int32) (x2 : gTx) (x3 : Int32) (x4 : Int32) (x5 : Int32) (x6 : Int32), gB x1 0 1 → tr_RReader_is sb_44 a0_kind xt x1 → x1.toInt ≠ 0 → gB x3 0 8192 → gB x4 0 6 → gB x5 0 8192 → tr_RReader_next a0_n a0_at a0_kind a0_value a0_t_v x3 x4 x5 x6 x2 → tx_RReader_goal x4 a0_goalN p p2 p3 p4 → R) →
  R
