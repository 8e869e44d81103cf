theorem dr_cJ7_copyOf_59c91_0 : decode cJ7_copyOf_59c91 0 = .ok (.iload_n 1, 1) := by decide +kernel
theorem dr_cJ7_copyOf_59c91_1 : decode cJ7_copyOf_59c91 1 = .ok (.aload_n 0, 1) := by decide +kernel
theorem dr_cJ7_copyOf_59c91_2 : decode cJ7_copyOf_59c91 2 = .ok (.arraylength, 1) := by decide +kernel
theorem dr_cJ7_copyOf_59c91_3 : decode cJ7_copyOf_59c91 3 = .ok (.if_icmp .ne 11, 3) := by decide +kernel
theorem dr_cJ7_copyOf_59c91_14 : decode cJ7_copyOf_59c91 14 = .ok (.iload_n 1, 1) := by decide +kernel
theorem dr_cJ7_copyOf_59c91_15 : decode cJ7_copyOf_59c91 15 = .ok (.newarray .int, 2) := by decide +kernel
theorem wr_1_95 : (Jvm.Cond.arrayClass Jvm.ClassFile.FieldType.int) ∈ gw := gw_1 95 rfl rfl
theorem dr_cJ7_copyOf_59c91_17 : decode cJ7_copyOf_59c91 17 = .ok (.astore_n 2, 1) := by decide +kernel
theorem dr_cJ7_copyOf_59c91_18 : decode cJ7_copyOf_59c91 18 = .ok (.aload_n 0, 1) := by decide +kernel
theorem dr_cJ7_copyOf_59c91_19 : decode cJ7_copyOf_59c91 19 = .ok (.iconst 0, 1) := by decide +kernel
theorem dr_cJ7_copyOf_59c91_20 : decode cJ7_copyOf_59c91 20 = .ok (.aload_n 2, 1) := by decide +kernel
theorem dr_cJ7_copyOf_59c91_21 : decode cJ7_copyOf_59c91 21 = .ok (.iconst 0, 1) := by decide +kernel
theorem dr_cJ7_copyOf_59c91_22 : decode cJ7_copyOf_59c91 22 = .ok (.aload_n 0, 1) := by decide +kernel
theorem dr_cJ7_copyOf_59c91_23 : decode cJ7_copyOf_59c91 23 = .ok (.arraylength, 1) := by decide +kernel
theorem dr_cJ7_copyOf_59c91_24 : decode cJ7_copyOf_59c91 24 = .ok (.iload_n 1, 1) := by decide +kernel
theorem dr_cJ7_copyOf_59c91_25 : decode cJ7_copyOf_59c91 25 = .ok (.invokestatic 304, 3) := by decide +kernel
theorem dr_cJ7_copyOf_59c91_28 : decode cJ7_copyOf_59c91 28 = .ok (.invokestatic 150, 3) := by decide +kernel
theorem dr_cJ7_copyOf_59c91_31 : decode cJ7_copyOf_59c91 31 = .ok (.aload_n 2, 1) := by decide +kernel
theorem dr_cJ7_copyOf_59c91_32 : decode cJ7_copyOf_59c91 32 = .ok (.areturn, 1) := by decide +kernel
theorem dr_cX14_goal_0 : decode cX14_goal 0 = .ok (.aload_n 0, 1) := by decide +kernel
theorem dr_cX14_goal_1 : decode cX14_goal 1 = .ok (.getfield 143, 3) := by decide +kernel
theorem wr_9_51 : (Jvm.Cond.fieldLink "SpillForgeModel$Reader" (143 : Nat) "SpillForgeModel$Reader" "goalN" "I") ∈ gw := gw_9 51 rfl rfl
theorem dr_cX14_goal_4 : decode cX14_goal 4 = .ok (.aload_n 0, 1) := by decide +kernel
theorem dr_cX14_goal_5 : decode cX14_goal 5 = .ok (.getfield 25, 3) := by decide +kernel
theorem wr_9_50 : (Jvm.Cond.fieldLink "SpillForgeModel$Reader" (25 : Nat) "SpillForgeModel$Reader" "goals" "[I") ∈ gw := gw_9 50 rfl rfl
theorem dr_cX14_goal_8 : decode cX14_goal 8 = .ok (.arraylength, 1) := by decide +kernel
theorem dr_cX14_goal_9 : decode cX14_goal 9 = .ok (.if_icmp .ne 37, 3) := by decide +kernel
theorem dr_cX14_goal_46 : decode cX14_goal 46 = .ok (.aload_n 0, 1) := by decide +kernel
theorem dr_cX14_goal_47 : decode cX14_goal 47 = .ok (.getfield 21, 3) := by decide +kernel
theorem wr_9_49 : (Jvm.Cond.fieldLink "SpillForgeModel$Reader" (21 : Nat) "SpillForgeModel$Reader" "goalPlaces" "[I") ∈ gw := gw_9 49 rfl rfl
theorem dr_cX14_goal_50 : decode cX14_goal 50 = .ok (.aload_n 0, 1) := by decide +kernel
theorem dr_cX14_goal_51 : decode cX14_goal 51 = .ok (.getfield 143, 3) := by decide +kernel
theorem dr_cX14_goal_54 : decode cX14_goal 54 = .ok (.aload_n 0, 1) := by decide +kernel
theorem dr_cX14_goal_55 : decode cX14_goal 55 = .ok (.getfield 47, 3) := by decide +kernel
theorem dr_cX14_goal_58 : decode cX14_goal 58 = .ok (.iastore, 1) := by decide +kernel
theorem dr_cX14_goal_59 : decode cX14_goal 59 = .ok (.aload_n 0, 1) := by decide +kernel
theorem dr_cX14_goal_60 : decode cX14_goal 60 = .ok (.iconst 3, 1) := by decide +kernel
theorem dr_cX14_goal_61 : decode cX14_goal 61 = .ok (.invokevirtual 152, 3) := by decide +kernel
theorem wr_9_93 : (Jvm.Cond.methodLink "SpillForgeModel$Reader" (152 : Nat) ({ cls := "SpillForgeModel$Reader", name := "want", desc := "(I)I" } : Jvm.MethodName)) ∈ gw := gw_9 93 rfl rfl
theorem wr_9_96 : (Jvm.Cond.code ({ cls := "SpillForgeModel$Reader", name := "want", desc := "(I)I" } : Jvm.MethodName) prog_17_method_11_code (3 : Nat) (Option.some Jvm.ClassFile.FieldType.int)) ∈ gw := gw_9 96 rfl rfl
theorem wr_9_95 : (Jvm.Cond.instanceMethod ({ cls := "SpillForgeModel$Reader", name := "want", desc := "(I)I" } : Jvm.MethodName)) ∈ gw := gw_9 95 rfl rfl
theorem wr_p_80 : Cond.selects "SpillForgeModel$Reader" ⟨"SpillForgeModel$Reader", "want", "(I)I"⟩ ⟨"SpillForgeModel$Reader", "want", "(I)I"⟩ ∈ gw := gw_p _ 80 rfl rfl rfl
theorem dr_cX14_goal_64 : decode cX14_goal 64 = .ok (.istore_n 1, 1) := by decide +kernel
theorem dr_cX14_goal_65 : decode cX14_goal 65 = .ok (.aload_n 0, 1) := by decide +kernel
theorem dr_cX14_goal_66 : decode cX14_goal 66 = .ok (.getfield 25, 3) := by decide +kernel
theorem dr_cX14_goal_69 : decode cX14_goal 69 = .ok (.aload_n 0, 1) := by decide +kernel
theorem dr_cX14_goal_70 : decode cX14_goal 70 = .ok (.getfield 143, 3) := by decide +kernel
theorem dr_cX14_goal_73 : decode cX14_goal 73 = .ok (.iload_n 1, 1) := by decide +kernel
theorem dr_cX14_goal_74 : decode cX14_goal 74 = .ok (.iastore, 1) := by decide +kernel
theorem dr_cX14_goal_75 : decode cX14_goal 75 = .ok (.aload_n 0, 1) := by decide +kernel
theorem dr_cX14_goal_76 : decode cX14_goal 76 = .ok (.dup, 1) := by decide +kernel
theorem dr_cX14_goal_77 : decode cX14_goal 77 = .ok (.getfield 143, 3) := by decide +kernel
theorem dr_cX14_goal_80 : decode cX14_goal 80 = .ok (.iconst 1, 1) := by decide +kernel
theorem dr_cX14_goal_81 : decode cX14_goal 81 = .ok (.iadd, 1) := by decide +kernel
theorem dr_cX14_goal_82 : decode cX14_goal 82 = .ok (.putfield 143, 3) := by decide +kernel
theorem dr_cX14_goal_85 : decode cX14_goal 85 = .ok (.iload_n 1, 1) := by decide +kernel
theorem dr_cX14_goal_86 : decode cX14_goal 86 = .ok (.ireturn, 1) := by decide +kernel
theorem dr_cX14_goal_12 : decode cX14_goal 12 = .ok (.aload_n 0, 1) := by decide +kernel
theorem dr_cX14_goal_13 : decode cX14_goal 13 = .ok (.aload_n 0, 1) := by decide +kernel
theorem dr_cX14_goal_14 : decode cX14_goal 14 = .ok (.getfield 25, 3) := by decide +kernel
theorem dr_cX14_goal_17 : decode cX14_goal 17 = .ok (.iconst 2, 1) := by decide +kernel
theorem dr_cX14_goal_18 : decode cX14_goal 18 = .ok (.aload_n 0, 1) := by decide +kernel
theorem dr_cX14_goal_19 : decode cX14_goal 19 = .ok (.getfield 143, 3) := by decide +kernel
theorem dr_cX14_goal_22 : decode cX14_goal 22 = .ok (.imul, 1) := by decide +kernel
theorem dr_cX14_goal_23 : decode cX14_goal 23 = .ok (.invokestatic 146, 3) := by decide +kernel
theorem wr_10_114 : (Jvm.Cond.methodLink "SpillForgeModel$Reader" (146 : Nat) ({ cls := "java/util/Arrays", name := "copyOf", desc := "([II)[I" } : Jvm.MethodName)) ∈ gw := gw_10 114 rfl rfl
theorem wr_10_116 : (Jvm.Cond.code ({ cls := "java/util/Arrays", name := "copyOf", desc := "([II)[I" } : Jvm.MethodName) prog_44_method_123_code (3 : Nat) (Option.some (Jvm.ClassFile.FieldType.array Jvm.ClassFile.FieldType.int))) ∈ gw := gw_10 116 rfl rfl
theorem wr_10_115 : (Jvm.Cond.static ({ cls := "java/util/Arrays", name := "copyOf", desc := "([II)[I" } : Jvm.MethodName)) ∈ gw := gw_10 115 rfl rfl
theorem dr_cX14_goal_26 : decode cX14_goal 26 = .ok (.putfield 25, 3) := by decide +kernel
theorem dr_cX14_goal_29 : decode cX14_goal 29 = .ok (.aload_n 0, 1) := by decide +kernel
theorem dr_cX14_goal_30 : decode cX14_goal 30 = .ok (.aload_n 0, 1) := by decide +kernel
theorem dr_cX14_goal_31 : decode cX14_goal 31 = .ok (.getfield 21, 3) := by decide +kernel
theorem dr_cX14_goal_34 : decode cX14_goal 34 = .ok (.iconst 2, 1) := by decide +kernel
theorem dr_cX14_goal_35 : decode cX14_goal 35 = .ok (.aload_n 0, 1) := by decide +kernel
theorem dr_cX14_goal_36 : decode cX14_goal 36 = .ok (.getfield 143, 3) := by decide +kernel
theorem dr_cX14_goal_39 : decode cX14_goal 39 = .ok (.imul, 1) := by decide +kernel
theorem dr_cX14_goal_40 : decode cX14_goal 40 = .ok (.invokestatic 146, 3) := by decide +kernel
theorem dr_cX14_goal_43 : decode cX14_goal 43 = .ok (.putfield 21, 3) := by decide +kernel
theorem dr_cX14_row_0 : decode cX14_row 0 = .ok (.aload_n 0, 1) := by decide +kernel
theorem dr_cX14_row_1 : decode cX14_row 1 = .ok (.ldc 179, 2) := by decide +kernel
theorem dr_cX14_row_3 : decode cX14_row 3 = .ok (.invokevirtual 132, 3) := by decide +kernel
theorem dr_cX14_row_6 : decode cX14_row 6 = .ok (.ifCond .eq 20, 3) := by decide +kernel
theorem dr_cX14_row_26 : decode cX14_row 26 = .ok (.aload_n 1, 1) := by decide +kernel
theorem dr_cX14_row_27 : decode cX14_row 27 = .ok (.aload_n 0, 1) := by decide +kernel
theorem dr_cX14_row_28 : decode cX14_row 28 = .ok (.iconst 2, 1) := by decide +kernel
theorem dr_cX14_row_29 : decode cX14_row 29 = .ok (.invokevirtual 152, 3) := by decide +kernel
theorem dr_cX14_row_32 : decode cX14_row 32 = .ok (.putfield 227, 3) := by decide +kernel
theorem wr_9_183 : (Jvm.Cond.fieldLink "SpillForgeModel$Reader" (227 : Nat) "SpillForgeModel$Row" "t" "I") ∈ gw := gw_9 183 rfl rfl
theorem dr_cX14_row_35 : decode cX14_row 35 = .ok (.aload_n 0, 1) := by decide +kernel
theorem dr_cX14_row_36 : decode cX14_row 36 = .ok (.ldc 229, 2) := by decide +kernel
theorem dr_cX14_row_38 : decode cX14_row 38 = .ok (.invokevirtual 173, 3) := by decide +kernel
theorem wr_9_137 : (Jvm.Cond.methodLink "SpillForgeModel$Reader" (173 : Nat) ({ cls := "SpillForgeModel$Reader", name := "want", desc := "(Ljava/lang/String;)V" } : Jvm.MethodName)) ∈ gw := gw_9 137 rfl rfl
theorem wr_9_140 : (Jvm.Cond.code ({ cls := "SpillForgeModel$Reader", name := "want", desc := "(Ljava/lang/String;)V" } : Jvm.MethodName) prog_17_method_10_code (2 : Nat) (Option.none : Option Jvm.ClassFile.FieldType)) ∈ gw := gw_9 140 rfl rfl
theorem wr_9_139 : (Jvm.Cond.instanceMethod ({ cls := "SpillForgeModel$Reader", name := "want", desc := "(Ljava/lang/String;)V" } : Jvm.MethodName)) ∈ gw := gw_9 139 rfl rfl
theorem wr_p_83 : Cond.selects "SpillForgeModel$Reader" ⟨"SpillForgeModel$Reader", "want", "(Ljava/lang/String;)V"⟩ ⟨"SpillForgeModel$Reader", "want", "(Ljava/lang/String;)V"⟩ ∈ gw := gw_p _ 83 rfl rfl rfl
theorem dr_cX14_row_41 : decode cX14_row 41 = .ok (.aload_n 0, 1) := by decide +kernel
theorem dr_cX14_row_42 : decode cX14_row 42 = .ok (.ldc 231, 2) := by decide +kernel
theorem dr_cX14_row_44 : decode cX14_row 44 = .ok (.invokevirtual 132, 3) := by decide +kernel
theorem dr_cX14_row_47 : decode cX14_row 47 = .ok (.ifCond .eq 14, 3) := by decide +kernel
theorem dr_cX14_row_61 : decode cX14_row 61 = .ok (.aload_n 0, 1) := by decide +kernel
theorem dr_cX14_row_62 : decode cX14_row 62 = .ok (.aload_n 1, 1) := by decide +kernel
theorem dr_cX14_row_63 : decode cX14_row 63 = .ok (.iconst 0, 1) := by decide +kernel
theorem dr_cX14_row_64 : decode cX14_row 64 = .ok (.invokevirtual 223, 3) := by decide +kernel
theorem wr_10_89 : (Jvm.Cond.methodLink "SpillForgeModel$Reader" (223 : Nat) ({ cls := "SpillForgeModel$Reader", name := "operand", desc := "(LSpillForgeModel$Row;Z)V" } : Jvm.MethodName)) ∈ gw := gw_10 89 rfl rfl
theorem wr_10_92 : (Jvm.Cond.code ({ cls := "SpillForgeModel$Reader", name := "operand", desc := "(LSpillForgeModel$Row;Z)V" } : Jvm.MethodName) prog_17_method_16_code (4 : Nat) (Option.none : Option Jvm.ClassFile.FieldType)) ∈ gw := gw_10 92 rfl rfl
theorem wr_10_91 : (Jvm.Cond.instanceMethod ({ cls := "SpillForgeModel$Reader", name := "operand", desc := "(LSpillForgeModel$Row;Z)V" } : Jvm.MethodName)) ∈ gw := gw_10 91 rfl rfl
theorem wr_p_89 : Cond.selects "SpillForgeModel$Reader" ⟨"SpillForgeModel$Reader", "operand", "(LSpillForgeModel$Row;Z)V"⟩ ⟨"SpillForgeModel$Reader", "operand", "(LSpillForgeModel$Row;Z)V"⟩ ∈ gw := gw_p _ 89 rfl rfl rfl
theorem dr_cX14_row_67 : decode cX14_row 67 = .ok (.aload_n 1, 1) := by decide +kernel
theorem dr_cX14_row_68 : decode cX14_row 68 = .ok (.aload_n 0, 1) := by decide +kernel
theorem dr_cX14_row_69 : decode cX14_row 69 = .ok (.getfield 38, 3) := by decide +kernel
theorem dr_cX14_row_72 : decode cX14_row 72 = .ok (.iconst 5, 1) := by decide +kernel
theorem dr_cX14_row_73 : decode cX14_row 73 = .ok (.if_icmp .ne 13, 3) := by decide +kernel
theorem dr_cX14_row_86 : decode cX14_row 86 = .ok (.iconst 0, 1) := by decide +kernel
theorem dr_cX14_row_87 : decode cX14_row 87 = .ok (.putfield 220, 3) := by decide +kernel
theorem wr_9_179 : (Jvm.Cond.fieldLink "SpillForgeModel$Reader" (220 : Nat) "SpillForgeModel$Row" "op" "I") ∈ gw := gw_9 179 rfl rfl
theorem dr_cX14_row_90 : decode cX14_row 90 = .ok (.aload_n 1, 1) := by decide +kernel
theorem dr_cX14_row_91 : decode cX14_row 91 = .ok (.getfield 220, 3) := by decide +kernel
theorem dr_cX14_row_94 : decode cX14_row 94 = .ok (.ifCond .ne 4, 3) := by decide +kernel
theorem dr_cX14_row_97 : decode cX14_row 97 = .ok (.return_, 1) := by decide +kernel
theorem dr_cX14_row_76 : decode cX14_row 76 = .ok (.aload_n 0, 1) := by decide +kernel
theorem dr_cX14_row_77 : decode cX14_row 77 = .ok (.getfield 11, 3) := by decide +kernel
theorem dr_cX14_row_80 : decode cX14_row 80 = .ok (.invokestatic 233, 3) := by decide +kernel
theorem wr_10_97 : (Jvm.Cond.code ({ cls := "SpillForgeModel", name := "operation", desc := "(Ljava/lang/String;)I" } : Jvm.MethodName) prog_14_method_1_code (4 : Nat) (Option.some Jvm.ClassFile.FieldType.int)) ∈ gw := gw_10 97 rfl rfl
theorem wr_10_96 : (Jvm.Cond.static ({ cls := "SpillForgeModel", name := "operation", desc := "(Ljava/lang/String;)I" } : Jvm.MethodName)) ∈ gw := gw_10 96 rfl rfl
theorem dr_cX14_row_83 : decode cX14_row 83 = .ok (.goto 4, 3) := by decide +kernel
theorem dr_cX14_row_98 : decode cX14_row 98 = .ok (.aload_n 0, 1) := by decide +kernel
theorem dr_cX14_row_99 : decode cX14_row 99 = .ok (.invokevirtual 35, 3) := by decide +kernel
theorem dr_cX14_row_102 : decode cX14_row 102 = .ok (.aload_n 0, 1) := by decide +kernel
theorem dr_cX14_row_103 : decode cX14_row 103 = .ok (.aload_n 1, 1) := by decide +kernel
theorem dr_cX14_row_104 : decode cX14_row 104 = .ok (.iconst 1, 1) := by decide +kernel
theorem dr_cX14_row_105 : decode cX14_row 105 = .ok (.invokevirtual 223, 3) := by decide +kernel
theorem dr_cX14_row_108 : decode cX14_row 108 = .ok (.return_, 1) := by decide +kernel
theorem dr_cX14_row_50 : decode cX14_row 50 = .ok (.aload_n 0, 1) := by decide +kernel
theorem dr_cX14_row_51 : decode cX14_row 51 = .ok (.invokevirtual 35, 3) := by decide +kernel
theorem dr_cX14_row_54 : decode cX14_row 54 = .ok (.aload_n 1, 1) := by decide +kernel
theorem dr_cX14_row_55 : decode cX14_row 55 = .ok (.bipush 20, 2) := by decide +kernel
theorem dr_cX14_row_57 : decode cX14_row 57 = .ok (.putfield 220, 3) := by decide +kernel
theorem dr_cX14_row_60 : decode cX14_row 60 = .ok (.return_, 1) := by decide +kernel
theorem dr_cX14_row_9 : decode cX14_row 9 = .ok (.aload_n 0, 1) := by decide +kernel
theorem dr_cX14_row_10 : decode cX14_row 10 = .ok (.invokevirtual 35, 3) := by decide +kernel
theorem dr_cX14_row_13 : decode cX14_row 13 = .ok (.aload_n 1, 1) := by decide +kernel
theorem dr_cX14_row_14 : decode cX14_row 14 = .ok (.bipush 22, 2) := by decide +kernel
theorem dr_cX14_row_16 : decode cX14_row 16 = .ok (.putfield 220, 3) := by decide +kernel
theorem dr_cX14_row_19 : decode cX14_row 19 = .ok (.aload_n 0, 1) := by decide +kernel
theorem dr_cX14_row_20 : decode cX14_row 20 = .ok (.aload_n 1, 1) := by decide +kernel
theorem dr_cX14_row_21 : decode cX14_row 21 = .ok (.iconst 0, 1) := by decide +kernel
theorem dr_cX14_row_22 : decode cX14_row 22 = .ok (.invokevirtual 223, 3) := by decide +kernel
theorem dr_cX14_row_25 : decode cX14_row 25 = .ok (.return_, 1) := by decide +kernel
abbrev ky_656657_Arrays_copyOf : gKey := (cJ7_copyOf_59c91, 3, "java/util/Arrays", (some (FieldType.array FieldType.int)), [], "copyOf", fun _ _ => True)
def pp_656657_Arrays_copyOf (D : va_G) (I : FieldType → ClassId) (P656649 : List Nat) (F656650 : Nat → va_E) (q656651 : Nat) (p656652 : Int32) (f656653 : Nat → Int32) (n656654 : Nat) : Option Value → va_W → Nat → Nat → Prop := fun r w dc ds => ∃ (P656687 : List Nat) (F656688 : Nat → va_E) (q656685 : Nat) (f656686 : Nat → Int32), r = some (.ref q656685) ∧ w = va_pl P656687 F656688 ∧ rSub P656649 P656687 ∧ rFr [] P656649 F656650 F656688 ∧ F656688 q656651 = .inl (I .int, n656654, .inl f656653) ∧ F656688 q656685 = .inl (I .int, p656652.toInt.toNat, .inl f656686) ∧ q656685 ∈ P656687 ∧ q656685 ∉ P656649 ∧ dc ≤ 1 ∧ ds ≤ p656652.toInt.toNat ∧ (p656652.toInt.toNat : Int) = p656652.toInt ∧ glC f656653 f656686 (n656654 : Int) ∧ glB f656653 f656686
set_option maxRecDepth 100000 in
set_option maxHeartbeats 4000000 in
theorem cp_656657_Arrays_copyOf (l : Launch) (hl0 : l.stackTraces = false) (D : va_G) (I : FieldType → ClassId) (P656649 : List Nat) (F656650 : Nat → va_E) (q656651 : Nat) (p656652 : Int32) (f656653 : Nat → Int32) (n656654 : Nat) (hmq656651 : q656651 ∈ P656649) (heq656651 : F656650 q656651 = .inl (I .int, n656654, .inl f656653)) (bp656652 : gB p656652 32 32768) (x656655 : (n656654 : Int) < p656652.toInt) (x656656 : ((n656654 : Int) ≤ 16777216)) : CtA (gV D I) l yJ7_copyOf_59c91 cJ7_copyOf_59c91 3 (some (FieldType.array FieldType.int)) 1 18 1 p656652.toInt.toNat [.ref q656651, .int p656652] (va_pl P656649 F656650) (pp_656657_Arrays_copyOf D I P656649 F656650 q656651 p656652 f656653 n656654) gNA := by
  refine CtA_ofF hl0 (by decide +kernel) (Nat.le_of_ble_eq_true rfl) ?_
  refine G_iload_n 1 dr_cJ7_copyOf_59c91_0 rfl ?_
  refine G_aload_n 0 dr_cJ7_copyOf_59c91_1 rfl ?_
  refine Gp_alen (Int32.ofNat n656654) 0 hmq656651 heq656651 dr_cJ7_copyOf_59c91_2 rfl rfl (G_nam fun z656658 hz656658 => ?_)
  have ez656658 : z656658.toInt = (n656654 : Nat) := gI_ofM hz656658 (by omega)
  have bz656658 : gB z656658 0 16777216 := ⟨by omega, by omega⟩
  refine G_icmp_ne 14 dr_cJ7_copyOf_59c91_3 (by decide +kernel) (fun hc656659 => ?_) (fun hc => absurd (show False by have := gC_eq hc; omega) not_false)
  have r656661 : p656652.toInt ≠ z656658.toInt := gC_ne hc656659
  refine G_iload_n 1 dr_cJ7_copyOf_59c91_14 rfl ?_
  refine G_newa 0 (p656652.toInt.toNat, .inl (fun _ => 0)) dr_cJ7_copyOf_59c91_15 rfl rfl (by intro C h; cases h) wr_1_95 (fun _ => ga_int _ _) (g_n0 (by omega)) rfl (show p656652.toInt.toNat * 4 ≤ 536870912 by omega) (show 0 + 1 ≤ 1 by first | omega | decide) (show 0 + p656652.toInt.toNat ≤ p656652.toInt.toNat by first | omega | decide) (fun q656662 => Gp_in (fun P656663 F656664 hq656665 hP656666 e656667 n656668 => ?_))
  refine G_widen (cs' := 1) (sl' := p656652.toInt.toNat) (by omega) (by omega) ?_
  have he656669 : F656664 q656651 = .inl (I .int, n656654, .inl f656653) := (n656668 q656651 (fun h => hq656665 (h ▸ hmq656651))).trans heq656651
  have he656670 : F656664 q656662 = .inl (I .int, p656652.toInt.toNat, .inl (fun _ => 0)) := e656667
  have hm656671 : q656651 ∈ P656663 := (hP656666 q656651).mpr (Or.inl hmq656651)
  have hm656672 : q656662 ∈ P656663 := (hP656666 q656662).mpr (Or.inr rfl)
  have hq656673 : q656662 ∉ P656649 := fun z => hq656665 ((rSub_rf (P := P656649)) q656662 z)
  have hfr656674 : rFr [] P656649 F656650 F656664 := rFr_new (rSub_rf (P := P656649)) hq656665 (rFr_rf (W := []) (P := P656649) (F := F656650)) n656668
  have hsb656675 : rSub P656649 P656663 := rSub_new (rSub_rf (P := P656649)) hP656666
  refine G_astore_n (L' := [(2, .ref q656662), (0, .ref q656651), (1, .int p656652)]) dr_cJ7_copyOf_59c91_17 (Nat.le_of_ble_eq_true rfl) rfl ?_
  refine G_aload_n 1 dr_cJ7_copyOf_59c91_18 rfl ?_
  refine G_iconst 0 dr_cJ7_copyOf_59c91_19 (by decide +kernel) ?_
  refine G_aload_n 0 dr_cJ7_copyOf_59c91_20 rfl ?_
  refine G_iconst 0 dr_cJ7_copyOf_59c91_21 (by decide +kernel) ?_
  refine G_aload_n 1 dr_cJ7_copyOf_59c91_22 rfl ?_
  refine Gp_alen (Int32.ofNat n656654) 0 hm656671 he656669 dr_cJ7_copyOf_59c91_23 rfl rfl (G_nam fun z656676 hz656676 => ?_)
  have ez656676 : z656676.toInt = (n656654 : Nat) := gI_ofM hz656676 (by omega)
  have bz656676 : gB z656676 0 16777216 := ⟨by omega, by omega⟩
  refine G_iload_n 2 dr_cJ7_copyOf_59c91_24 rfl ?_
  refine G_mmin dr_cJ7_copyOf_59c91_25 wr_8_31 wr_3_227 wr_1_6 wr_3_228 (Nat.le_of_ble_eq_true rfl) (Nat.le_of_ble_eq_true rfl) (show 1 ≤ 1 by first | omega | decide) (show p656652.toInt.toNat ≤ p656652.toInt.toNat by first | omega | decide) (G_nam fun z656677 hz656677 => ?_)
  have ez656677 : z656676.toInt ≥ z656677.toInt ∧ p656652.toInt ≥ z656677.toInt ∧ (z656677.toInt = z656676.toInt ∨ z656677.toInt = p656652.toInt) := by have := gI_min hz656677; omega
  have bz656677 : gB z656677 0 32768 := ⟨by omega, by omega⟩
  refine Gp_copyp 0 hm656671 hm656672 he656669 he656670 dr_cJ7_copyOf_59c91_28 wr_8_32 wr_5_113 wr_5_112 wr_1_34 rfl rfl (fun _ => rfl) (by decide) (by decide) (by omega) (by have qa0 : Int32.toInt 0 = 0 := (by decide); omega) (by have qa0 : Int32.toInt 0 = 0 := (by decide); omega) (Nat.le_of_ble_eq_true rfl) (Nat.le_of_ble_eq_true rfl) (fun F656678 e656679 n656680 => ?_)
  obtain ⟨f656681, hf656681⟩ : ∃ z, z = va_cpy f656653 (fun _ => 0) (0 : Int32).toNatClampNeg (0 : Int32).toNatClampNeg z656677.toNatClampNeg := ⟨_, rfl⟩
  rw [← hf656681] at e656679
  have he656682 : F656678 q656651 = .inl (I .int, n656654, .inl f656653) := (n656680 q656651 (fun h => hq656673 (h ▸ hmq656651))).trans he656669
  have he656683 : F656678 q656662 = .inl (I .int, p656652.toInt.toNat, .inl f656681) := e656679
  have hfr656684 : rFr [] P656649 F656650 F656678 := rFr_newp hq656673 hfr656674 n656680
  refine G_aload_n 0 dr_cJ7_copyOf_59c91_31 rfl ?_
  exact G_aretA (FieldType.array FieldType.int) dr_cJ7_copyOf_59c91_32 rfl (by first | exact Or.inl ⟨_, rfl⟩ | exact Or.inr ⟨_, rfl⟩) (Or.inr ⟨_, rfl⟩) (Nat.le_of_ble_eq_true rfl) (show p656652.toInt.toNat ≤ p656652.toInt.toNat by omega) ⟨P656663, F656678, q656662, f656681, rfl, rfl, hsb656675, hfr656684, he656682, he656683, hm656672, hq656673, (Nat.le_of_ble_eq_true rfl), (by omega), (by omega), (glC_cpy hf656681 (by decide) (by decide) (by omega)), (glB_cpy hf656681)⟩
abbrev ky_656570_Reader_goal : gKey := (cX14_goal, 2, "SpillForgeModel$Reader", (some FieldType.int), [], "goal", fun _ _ => True)
def pp_656570_Reader_goal (D : va_G) (I : FieldType → ClassId) (P656537 : List Nat) (F656538 : Nat → va_E) (q656539 : Nat) (q656540 : Nat) (q656541 : Nat) (q656542 : Nat) (p656543 : Int32) (p656544 : Int32) (p656545 : Int32) (p656546 : Int32) (p656547 : Int32) (p656548 : Int32) (qo656549 : Nat) (p656550 : Int32) (p656551 : Int32) (p656552 : Int32) (p656553 : Int32) (f656554 : Nat → Int32) (f656555 : Nat → Int32) (n656556 : Nat) (f656557 : Nat → Int32) (n656558 : Nat) : Option Value → va_W → Nat → Nat → Prop := fun r w dc ds => ∃ (P656895 : List Nat) (F656896 : Nat → va_E) (o656883 : Int32) (o656884 : Int32) (o656885 : Int32) (o656886 : Int32) (q656887 : Nat) (o656888 : Int32) (q656889 : Nat) (n656890 : Nat) (f656891 : Nat → Int32) (q656892 : Nat) (n656893 : Nat) (f656894 : Nat → Int32), r = some (.int p656547) ∧ w = va_pl P656895 F656896 ∧ rSub P656537 P656895 ∧ rFr [q656542, q656541, q656539] P656537 F656538 F656896 ∧ F656896 q656889 = .inl (I .int, n656890, .inl f656891) ∧ F656896 q656892 = .inl (I .int, n656893, .inl f656894) ∧ F656896 q656539 = .inr (19, [.ref q656540, .int p656543, .int o656883, .int o656884, .int o656885, .int o656886, .int p656545, .ref q656887, .int p656550, .int p656551, .int p656552, .ref q656889, .ref q656892, .int o656888]) ∧ F656896 q656540 = .inl (I .byte, 8192, .inl f656554) ∧ q656889 ∈ P656895 ∧ (q656889 = q656541 ∨ q656889 ∉ P656537) ∧ q656892 ∈ P656895 ∧ (q656892 = q656542 ∨ q656892 ∉ P656537) ∧ dc ≤ (16 * (o656883.toInt - p656544.toInt)).toNat + 2 ∧ ds ≤ (256 * (o656883.toInt - p656544.toInt)).toNat + 4 * (n656893 - n656558) ∧ gB o656883 0 8192 ∧ gB o656884 0 6 ∧ gB o656885 0 8192 ∧ gB o656888 1 1000000 ∧ p656544.toInt ≤ o656883.toInt ∧ prP o656884 p656544 o656883 ∧ o656883.toInt ≤ p656543.toInt ∧ tP I P656895 F656896 o656884 q656887 q656892 q656889 ∧ vP o656884 o656886 ∧ vP 3 p656547 ∧ p656545.toInt = 3 ∧ (n656893 : Int) ≤ 2 * (n656558 : Int) ∧ q656892 ≠ q656889 ∧ glC f656557 f656894 p656553.toInt ∧ glL f656894 p656553 p656547 ∧ glP f656891 ∧ (n656893 : Int) = (n656890 : Int) ∧ o656888.toInt = p656553.toInt + 1 ∧ o656888.toInt ≤ (n656893 : Int) ∧ 16 ≤ (n656893 : Int) ∧ (n656893 : Int) ≤ 2 * o656888.toInt + 16 ∧ (n656558 : Int) ≤ (n656893 : Int)
def xp_656570_Reader_goal (D : va_G) (I : FieldType → ClassId) (P656537 : List Nat) (F656538 : Nat → va_E) (q656539 : Nat) (q656540 : Nat) (q656541 : Nat) (q656542 : Nat) (p656543 : Int32) (p656544 : Int32) (p656545 : Int32) (p656546 : Int32) (p656547 : Int32) (p656548 : Int32) (qo656549 : Nat) (p656550 : Int32) (p656551 : Int32) (p656552 : Int32) (p656553 : Int32) (f656554 : Nat → Int32) (f656555 : Nat → Int32) (n656556 : Nat) (f656557 : Nat → Int32) (n656558 : Nat) : String → Nat → va_W → Nat → Nat → Prop := fun E q w dc ds => ∃ (P656898 : List Nat) (F656897 : Nat → va_E), E = "SpillForgeModel$Wrong" ∧ w = va_pl P656898 F656897 ∧ rSub P656537 P656898 ∧ rFr [q656541, q656539] P656537 F656538 F656897 ∧ q ∈ P656898 ∧ q ∉ P656537 ∧ wrF F656897 q ∧ dc ≤ (16 * (p656543.toInt - p656544.toInt)).toNat + 3 ∧ ds ≤ (256 * (p656543.toInt - p656544.toInt)).toNat + 4 * n656558 + 7
set_option maxRecDepth 100000 in
set_option maxHeartbeats 4000000 in
theorem cp_656570_Reader_goal (l : Launch) (hl0 : l.stackTraces = false) (D : va_G) (I : FieldType → ClassId) (P656537 : List Nat) (F656538 : Nat → va_E) (q656539 : Nat) (q656540 : Nat) (q656541 : Nat) (q656542 : Nat) (p656543 : Int32) (p656544 : Int32) (p656545 : Int32) (p656546 : Int32) (p656547 : Int32) (p656548 : Int32) (qo656549 : Nat) (p656550 : Int32) (p656551 : Int32) (p656552 : Int32) (p656553 : Int32) (f656554 : Nat → Int32) (f656555 : Nat → Int32) (n656556 : Nat) (f656557 : Nat → Int32) (n656558 : Nat) (hmq656539 : q656539 ∈ P656537) (hmq656540 : q656540 ∈ P656537) (hmq656541 : q656541 ∈ P656537) (hmq656542 : q656542 ∈ P656537) (heq656539 : F656538 q656539 = .inr (19, [.ref q656540, .int p656543, .int p656544, .int p656545, .int p656546, .int p656547, .int p656548, .ref qo656549, .int p656550, .int p656551, .int p656552, .ref q656541, .ref q656542, .int p656553])) (heq656540 : F656538 q656540 = .inl (I .byte, 8192, .inl f656554)) (heq656541 : F656538 q656541 = .inl (I .int, n656556, .inl f656555)) (heq656542 : F656538 q656542 = .inl (I .int, n656558, .inl f656557)) (hneq656540q656541 : q656540 ≠ q656541) (hneq656540q656542 : q656540 ≠ q656542) (hneq656541q656542 : q656541 ≠ q656542) (bp656543 : gB p656543 0 8192) (bp656544 : gB p656544 0 8192) (bp656545 : gB p656545 0 6) (bp656546 : gB p656546 0 8192) (bp656548 : gB p656548 0 6) (bp656550 : gB p656550 (-1) 8192) (bp656551 : gB p656551 0 4) (bp656552 : gB p656552 0 1000000) (bp656553 : gB p656553 0 1000000) (bf656554 : gF f656554 (-128) 127) (x656559 : p656544.toInt ≤ p656543.toInt) (x656560 : tP I P656537 F656538 p656545 qo656549 q656542 q656541) (x656561 : vP p656545 p656547) (x656562 : (n656558 : Int) = (n656556 : Int)) (x656563 : p656553.toInt ≤ (n656558 : Int)) (x656564 : 16 ≤ (n656558 : Int)) (x656565 : (n656558 : Int) ≤ 2 * p656553.toInt + 16) (x656566 : p656553.toInt ≤ 16000) (x656567 : glP f656555) (x656568 : ((n656556 : Int) ≤ 16777216)) (x656569 : ((n656558 : Int) ≤ 16777216)) : CtA (gV D I) l yX14_goal cX14_goal 2 (some FieldType.int) 9 199 ((16 * (p656543.toInt - p656544.toInt)).toNat + 3) ((256 * (p656543.toInt - p656544.toInt)).toNat + 4 * n656558 + 7) [.ref q656539] (va_pl P656537 F656538) (pp_656570_Reader_goal D I P656537 F656538 q656539 q656540 q656541 q656542 p656543 p656544 p656545 p656546 p656547 p656548 qo656549 p656550 p656551 p656552 p656553 f656554 f656555 n656556 f656557 n656558) (xp_656570_Reader_goal D I P656537 F656538 q656539 q656540 q656541 q656542 p656543 p656544 p656545 p656546 p656547 p656548 qo656549 p656550 p656551 p656552 p656553 f656554 f656555 n656556 f656557 n656558) := by
  refine CtA_of hl0 (by decide) (Nat.le_of_ble_eq_true rfl) ?_
  have bp656547 := gB_any p656547
  refine G_aload_n 0 dr_cX14_goal_0 rfl ?_
  refine Gp_get 13 hmq656539 heq656539 dr_cX14_goal_1 (gk_X14 D I) (Nat.le_of_ble_eq_true rfl) wr_9_51 rfl ?_
  refine G_aload_n 0 dr_cX14_goal_4 rfl ?_
  refine Gp_get 12 hmq656539 heq656539 dr_cX14_goal_5 (gk_X14 D I) (Nat.le_of_ble_eq_true rfl) wr_9_50 rfl ?_
  refine Gp_alen (Int32.ofNat n656558) 0 hmq656542 heq656542 dr_cX14_goal_8 rfl rfl (G_nam fun z656571 hz656571 => ?_)
  have ez656571 : z656571.toInt = (n656558 : Nat) := gI_ofM hz656571 (by omega)
  have bz656571 : gB z656571 0 16777216 := ⟨by omega, by omega⟩
  refine G_icmp_ne 46 dr_cX14_goal_9 (by decide +kernel) (fun hc656572 => ?_) (fun hc656572 => ?_)
  · have r656573 : p656553.toInt ≠ z656571.toInt := gC_ne hc656572
    refine G_aload_n 0 dr_cX14_goal_46 rfl ?_
    refine Gp_get 11 hmq656539 heq656539 dr_cX14_goal_47 (gk_X14 D I) (Nat.le_of_ble_eq_true rfl) wr_9_49 rfl ?_
    refine G_aload_n 0 dr_cX14_goal_50 rfl ?_
    refine Gp_get 13 hmq656539 heq656539 dr_cX14_goal_51 (gk_X14 D I) (Nat.le_of_ble_eq_true rfl) wr_9_51 rfl ?_
    refine G_aload_n 0 dr_cX14_goal_54 rfl ?_
    refine Gp_get 4 hmq656539 heq656539 dr_cX14_goal_55 (gk_X14 D I) (Nat.le_of_ble_eq_true rfl) wr_9_40 rfl ?_
    refine Gp_iast 0 hmq656541 heq656541 dr_cX14_goal_58 rfl (gB_inr (by omega) (by omega)) (fun F656574 e656575 n656576 => ?_)
    obtain ⟨f656577, hf656577⟩ : ∃ z, z = upd f656555 p656553.toNatClampNeg p656546 := ⟨_, rfl⟩
    rw [← hf656577] at e656575
    have he656578 : F656574 q656539 = .inr (19, [.ref q656540, .int p656543, .int p656544, .int p656545, .int p656546, .int p656547, .int p656548, .ref qo656549, .int p656550, .int p656551, .int p656552, .ref q656541, .ref q656542, .int p656553]) := (n656576 q656539 (rn_oa heq656539 heq656541)).trans heq656539
    have he656579 : F656574 q656540 = .inl (I .byte, 8192, .inl f656554) := (n656576 q656540 hneq656540q656541).trans heq656540
    have he656580 : F656574 q656542 = .inl (I .int, n656558, .inl f656557) := (n656576 q656542 (Ne.symm hneq656541q656542)).trans heq656542
    have he656581 : F656574 q656541 = .inl (I .int, n656556, .inl f656577) := e656575
    have hfr656582 : rFr [q656541] P656537 F656538 F656574 := rFr_put (rFr_rf (W := []) (P := P656537) (F := F656538)) n656576
    have tp656583 : tP I P656537 F656574 p656545 qo656549 q656542 q656541 := tP_pa x656560 heq656541 (Or.inr rfl) n656576
    refine G_aload_n 0 dr_cX14_goal_59 rfl ?_
    refine G_iconst 3 dr_cX14_goal_60 (by decide +kernel) ?_
    refine Gw_callV (As := [.int 3]) (gV_ok D I) (cp_655798_Reader_want l hl0 D I P656537 F656574 q656539 q656540 3 p656543 p656544 p656545 p656546 p656547 p656548 qo656549 p656550 p656551 p656552 q656541 q656542 p656553 f656554 hmq656539 hmq656540 he656578 he656579 (gB_w (gBl (show Int32.toInt 3 = 3 by decide)) (by decide) (by decide)) bp656543 bp656544 bp656545 bp656546 bp656548 bp656550 bp656551 bp656552 bp656553 bf656554 (by omega) hmq656542 hmq656541 tp656583 x656561) dr_cX14_goal_61 ⟨wr_9_93, wr_1_32, wr_9_96, by decide, rfl, (Nat.le_of_ble_eq_true rfl), (Nat.le_of_ble_eq_true rfl)⟩ wr_9_95 wr_p_80 hmq656539 he656578 rfl (show 0 + ((16 * (p656543.toInt - p656544.toInt)).toNat + 1) ≤ ((16 * (p656543.toInt - p656544.toInt)).toNat + 3) by first | omega | decide) (show 0 + ((256 * (p656543.toInt - p656544.toInt)).toNat + 7) ≤ ((256 * (p656543.toInt - p656544.toInt)).toNat + 4 * n656558 + 7) by first | omega | decide) (Nat.le_of_ble_eq_true rfl) (fun r656587 w656588 dc656584 ds656585 hp656586 => ?_) (fun _ qx656600 _ dc656598 ds656599 hx => by obtain ⟨P656596, F656597, rfl, rfl, hsb656589, hfr656590, hq656591, hqn656592, hwr656593, hdc656594, hds656595⟩ := hx; exact GT_outA rfl (show 0 + dc656598 ≤ ((16 * (p656543.toInt - p656544.toInt)).toNat + 3) by omega) (show 0 + ds656599 ≤ ((256 * (p656543.toInt - p656544.toInt)).toNat + 4 * n656558 + 7) by omega) ⟨P656596, F656597, rfl, rfl, (rSub_tr (rSub_rf (P := P656537)) hsb656589), (rFr_v (show rFr [q656541] P656537 F656538 F656597 from rFr_call (rSub_rf (P := P656537)) hfr656582 hfr656590 (fun b hb hn => ⟨(nm_c (fun e => hn (e ▸ List.mem_cons_self)) nm_n), nm_n⟩)) (fun b hn => (nm_c (fun e => hn (e ▸ List.mem_cons_self)) nm_n))), hq656591, (fun z => hqn656592 ((rSub_rf (P := P656537)) _ z)), hwr656593, (by omega), (by omega)⟩)
    obtain ⟨P656613, F656614, o656601, o656602, o656603, o656604, q656605, rfl, rfl, hsb656615, hfr656616, he656617, he656618, hdc, hds, bo656601, bo656602, bo656603, x656606, x656607, x656608, x656609, x656610, x656611, x656612⟩ := hp656586
    have hm656619 : q656539 ∈ P656613 := hsb656615 q656539 hmq656539
    have hm656620 : q656540 ∈ P656613 := hsb656615 q656540 hmq656540
    have hm656621 : q656541 ∈ P656613 := hsb656615 q656541 hmq656541
    have hm656622 : q656542 ∈ P656613 := hsb656615 q656542 hmq656542
    have hsb656623 : rSub P656537 P656613 := rSub_tr (rSub_rf (P := P656537)) hsb656615
    have he656624 : F656614 q656541 = .inl (I .int, n656556, .inl f656577) := (hfr656616 q656541 hmq656541 (nm_c (rn_ao he656581 he656578) nm_n)).trans he656581
    have he656625 : F656614 q656542 = .inl (I .int, n656558, .inl f656557) := (hfr656616 q656542 hmq656542 (nm_c (rn_ao he656580 he656578) nm_n)).trans he656580
    have hfr656626 : rFr [q656541, q656539] P656537 F656538 F656614 := rFr_call (rSub_rf (P := P656537)) hfr656582 hfr656616 (fun b hb hn => ⟨(nm_c (fun e => hn (e ▸ List.mem_cons_self)) nm_n), (nm_c (fun e => hn (e ▸ (List.mem_cons_of_mem _ List.mem_cons_self))) nm_n)⟩)
    have bo656604 := gB_any o656604
    rw [show Int32.toInt 3 = 3 from by decide] at x656612
    change G _ _ _ _ _ _ _ (.int p656547 :: _) _ _ _
    refine G_widen (cs' := (16 * (o656601.toInt - p656544.toInt)).toNat) (sl' := (256 * (o656601.toInt - p656544.toInt)).toNat) (by omega) (by omega) ?_
    refine G_istore_n (L' := [(1, .int p656547), (0, .ref q656539)]) dr_cX14_goal_64 (Nat.le_of_ble_eq_true rfl) rfl ?_
    refine G_aload_n 1 dr_cX14_goal_65 rfl ?_
    refine Gp_get 12 hm656619 he656617 dr_cX14_goal_66 (gk_X14 D I) (Nat.le_of_ble_eq_true rfl) wr_9_50 rfl ?_
    refine G_aload_n 1 dr_cX14_goal_69 rfl ?_
    refine Gp_get 13 hm656619 he656617 dr_cX14_goal_70 (gk_X14 D I) (Nat.le_of_ble_eq_true rfl) wr_9_51 rfl ?_
    refine G_iload_n 0 dr_cX14_goal_73 rfl ?_
    refine Gp_iast 0 hm656622 he656625 dr_cX14_goal_74 rfl (gB_inr (by omega) (by omega)) (fun F656627 e656628 n656629 => ?_)
    obtain ⟨f656630, hf656630⟩ : ∃ z, z = upd f656557 p656553.toNatClampNeg p656547 := ⟨_, rfl⟩
    rw [← hf656630] at e656628
    have he656631 : F656627 q656541 = .inl (I .int, n656556, .inl f656577) := (n656629 q656541 hneq656541q656542).trans he656624
    have he656632 : F656627 q656539 = .inr (19, [.ref q656540, .int p656543, .int o656601, .int o656602, .int o656603, .int o656604, .int p656545, .ref q656605, .int p656550, .int p656551, .int p656552, .ref q656541, .ref q656542, .int p656553]) := (n656629 q656539 (rn_oa he656617 he656625)).trans he656617
    have he656633 : F656627 q656540 = .inl (I .byte, 8192, .inl f656554) := (n656629 q656540 hneq656540q656542).trans he656618
    have he656634 : F656627 q656542 = .inl (I .int, n656558, .inl f656630) := e656628
    have hfr656635 : rFr [q656542, q656541, q656539] P656537 F656538 F656627 := rFr_put hfr656626 n656629
    have tp656636 : tP I P656613 F656627 o656602 q656605 q656542 q656541 := tP_pa x656609 he656625 (Or.inl rfl) n656629
    refine G_aload_n 1 dr_cX14_goal_75 rfl ?_
    refine G_dup dr_cX14_goal_76 rfl ?_
    refine Gp_get 13 hm656619 he656632 dr_cX14_goal_77 (gk_X14 D I) (Nat.le_of_ble_eq_true rfl) wr_9_51 rfl ?_
    refine G_iconst 1 dr_cX14_goal_80 (by decide +kernel) ?_
    refine G_iadd dr_cX14_goal_81 (G_nam fun z656637 hz656637 => ?_)
    have ez656637 : z656637.toInt = p656553.toInt + 1 := by rw [gI_add hz656637 bp656553 (gBl (show Int32.toInt 1 = 1 by decide)) (by decide) (by decide), show Int32.toInt 1 = 1 from by decide]
    have bz656637 : gB z656637 1 1000001 := gB_add (gI_add hz656637 bp656553 (gBl (show Int32.toInt 1 = 1 by decide)) (by decide) (by decide)) bp656553 (gBl (show Int32.toInt 1 = 1 by decide)) (by decide) (by decide)
    refine Gp_put 13 hm656619 he656632 dr_cX14_goal_82 (gk_X14 D I) (Nat.le_of_ble_eq_true rfl) wr_9_51 rfl rfl rfl (Nat.le_of_ble_eq_true rfl) (fun F656638 e656639 n656640 => ?_)
    have he656641 : F656638 q656541 = .inl (I .int, n656556, .inl f656577) := (n656640 q656541 (rn_ao he656631 he656632)).trans he656631
    have he656642 : F656638 q656542 = .inl (I .int, n656558, .inl f656630) := (n656640 q656542 (rn_ao he656634 he656632)).trans he656634
    have he656643 : F656638 q656540 = .inl (I .byte, 8192, .inl f656554) := (n656640 q656540 (rn_ao he656633 he656632)).trans he656633
    have he656644 : F656638 q656539 = .inr (19, [.ref q656540, .int p656543, .int o656601, .int o656602, .int o656603, .int o656604, .int p656545, .ref q656605, .int p656550, .int p656551, .int p656552, .ref q656541, .ref q656542, .int z656637]) := e656639
    have hfr656645 : rFr [q656542, q656541, q656539] P656537 F656538 F656638 := rFr_put' (List.mem_cons_of_mem _ (List.mem_cons_of_mem _ List.mem_cons_self)) hfr656635 n656640
    have tp656646 : tP I P656613 F656638 o656602 q656605 q656542 q656541 := tP_put tp656636 he656632 (by decide) n656640
    refine G_iload_n 0 dr_cX14_goal_85 rfl ?_
    exact G_iretA dr_cX14_goal_86 rfl (show (16 * (o656601.toInt - p656544.toInt)).toNat ≤ ((16 * (p656543.toInt - p656544.toInt)).toNat + 3) by omega) (show (256 * (o656601.toInt - p656544.toInt)).toNat ≤ ((256 * (p656543.toInt - p656544.toInt)).toNat + 4 * n656558 + 7) by omega) ⟨P656613, F656638, o656601, o656602, o656603, o656604, q656605, z656637, q656541, n656556, f656577, q656542, n656558, f656630, rfl, rfl, hsb656623, hfr656645, he656641, he656642, he656644, he656643, hm656621, (Or.inl rfl), hm656622, (Or.inl rfl), (by omega), (by omega), bo656601, bo656602, bo656603, ⟨by omega, by omega⟩, (by omega), x656607, (by omega), tp656646, x656610, x656611, (by omega), (by omega), (Ne.symm hneq656541q656542), (glC_u hf656630 glC_rf (by omega)), (glL_u hf656630), (glP_u hf656577 x656567 (by first | assumption | exact ⟨by omega, by omega⟩)), (by omega), (by omega), (by omega), (by omega), (by omega), (by omega)⟩
  · have r656647 : p656553.toInt = z656571.toInt := gC_eq hc656572
    have bz656571' : gB z656571 0 1000000 := ⟨by omega, by omega⟩
    refine G_aload_n 0 dr_cX14_goal_12 rfl ?_
    refine G_aload_n 0 dr_cX14_goal_13 rfl ?_
    refine Gp_get 12 hmq656539 heq656539 dr_cX14_goal_14 (gk_X14 D I) (Nat.le_of_ble_eq_true rfl) wr_9_50 rfl ?_
    refine G_iconst 2 dr_cX14_goal_17 (by decide +kernel) ?_
    refine G_aload_n 0 dr_cX14_goal_18 rfl ?_
    refine Gp_get 13 hmq656539 heq656539 dr_cX14_goal_19 (gk_X14 D I) (Nat.le_of_ble_eq_true rfl) wr_9_51 rfl ?_
    refine G_imul dr_cX14_goal_22 (G_nam fun z656648 hz656648 => ?_)
    have ez656648 : z656648.toInt = 2 * p656553.toInt := by rw [gI_mul hz656648 (gBl (show Int32.toInt 2 = 2 by decide)) bp656553 (by decide) (by decide) (by decide), show Int32.toInt 2 = 2 from by decide]
    have bz656648 : gB z656648 0 2000000 := gB_mul hz656648 (gBl (show Int32.toInt 2 = 2 by decide)) bp656553 (by decide) (by decide) (by decide) (by decide)
    refine Gw_callS (As := [.ref q656542, .int z656648]) (gV_ok D I) (cp_656657_Arrays_copyOf l hl0 D I P656537 F656538 q656542 z656648 f656557 n656558 hmq656542 heq656542 ⟨by omega, by omega⟩ (by omega) (by omega)) dr_cX14_goal_23 ⟨wr_10_114, wr_1_30, wr_10_116, by decide, rfl, (Nat.le_of_ble_eq_true rfl), (Nat.le_of_ble_eq_true rfl)⟩ wr_10_115 (show 0 + 1 ≤ ((16 * (p656543.toInt - p656544.toInt)).toNat + 3) by first | omega | decide) (show 0 + z656648.toInt.toNat ≤ ((256 * (p656543.toInt - p656544.toInt)).toNat + 4 * n656558 + 7) by first | omega | decide) (Nat.le_of_ble_eq_true rfl) (fun r656692 w656693 dc656689 ds656690 hp656691 => ?_) (fun _ _ _ _ _ z => z.elim)
    obtain ⟨P656699, F656700, q656694, f656695, rfl, rfl, hsb656701, hfr656702, he656703, he656704, hm656705, hq656706, hdc, hds, x656696, x656697, x656698⟩ := hp656691
    have hm656707 : q656539 ∈ P656699 := hsb656701 q656539 hmq656539
    have hm656708 : q656540 ∈ P656699 := hsb656701 q656540 hmq656540
    have hm656709 : q656541 ∈ P656699 := hsb656701 q656541 hmq656541
    have hm656710 : q656542 ∈ P656699 := hsb656701 q656542 hmq656542
    have hq656711 : q656694 ∉ P656537 := fun z => hq656706 ((rSub_rf (P := P656537)) q656694 z)
    have hsb656712 : rSub P656537 P656699 := rSub_tr (rSub_rf (P := P656537)) hsb656701
    have he656713 : F656700 q656539 = .inr (19, [.ref q656540, .int p656543, .int p656544, .int p656545, .int p656546, .int p656547, .int p656548, .ref qo656549, .int p656550, .int p656551, .int p656552, .ref q656541, .ref q656542, .int p656553]) := (hfr656702 q656539 hmq656539 nm_n).trans heq656539
    have he656714 : F656700 q656540 = .inl (I .byte, 8192, .inl f656554) := (hfr656702 q656540 hmq656540 nm_n).trans heq656540
    have he656715 : F656700 q656541 = .inl (I .int, n656556, .inl f656555) := (hfr656702 q656541 hmq656541 nm_n).trans heq656541
    have hfr656716 : rFr [] P656537 F656538 F656700 := rFr_call (rSub_rf (P := P656537)) (rFr_rf (W := []) (P := P656537) (F := F656538)) hfr656702 (fun b hb hn => ⟨nm_n, nm_n⟩)
    have tp656717 : tP I P656699 F656700 p656545 qo656549 q656542 q656541 := tP_new x656560 hsb656701 (fun b hb => hfr656702 b hb (fun z => by cases z)) (Or.inl rfl) (Or.inl rfl)
    have tp656718 : tP I P656699 F656700 p656545 qo656549 q656694 q656541 := tP_new x656560 hsb656701 (fun b hb => hfr656702 b hb (fun z => by cases z)) (Or.inr hq656706) (Or.inl rfl)
    have tp656719 : tP I P656699 F656700 p656545 qo656549 q656542 q656694 := tP_new x656560 hsb656701 (fun b hb => hfr656702 b hb (fun z => by cases z)) (Or.inl rfl) (Or.inr hq656706)
    change G _ _ _ _ _ _ _ (.ref q656694 :: _) _ _ _
    refine G_widen (cs' := 1) (sl' := z656648.toInt.toNat) (by omega) (by omega) ?_
    refine Gp_put 12 hm656707 he656713 dr_cX14_goal_26 (gk_X14 D I) (Nat.le_of_ble_eq_true rfl) wr_9_50 rfl rfl rfl (Nat.le_of_ble_eq_true rfl) (fun F656720 e656721 n656722 => ?_)
    have he656723 : F656720 q656540 = .inl (I .byte, 8192, .inl f656554) := (n656722 q656540 (rn_ao he656714 he656713)).trans he656714
    have he656724 : F656720 q656541 = .inl (I .int, n656556, .inl f656555) := (n656722 q656541 (rn_ao he656715 he656713)).trans he656715
    have he656725 : F656720 q656542 = .inl (I .int, n656558, .inl f656557) := (n656722 q656542 (rn_ao he656703 he656713)).trans he656703
    have he656726 : F656720 q656694 = .inl (I .int, z656648.toInt.toNat, .inl f656695) := (n656722 q656694 (fun h => hq656711 (h ▸ hmq656539))).trans he656704
    have he656727 : F656720 q656539 = .inr (19, [.ref q656540, .int p656543, .int p656544, .int p656545, .int p656546, .int p656547, .int p656548, .ref qo656549, .int p656550, .int p656551, .int p656552, .ref q656541, .ref q656694, .int p656553]) := e656721
    have hfr656728 : rFr [q656539] P656537 F656538 F656720 := rFr_put hfr656716 n656722
    have tp656729 : tP I P656699 F656720 p656545 qo656549 q656542 q656541 := tP_put tp656717 he656713 (by decide) n656722
    have tp656730 : tP I P656699 F656720 p656545 qo656549 q656694 q656541 := tP_put tp656718 he656713 (by decide) n656722
    have tp656731 : tP I P656699 F656720 p656545 qo656549 q656542 q656694 := tP_put tp656719 he656713 (by decide) n656722
    refine G_aload_n 0 dr_cX14_goal_29 rfl ?_
    refine G_aload_n 0 dr_cX14_goal_30 rfl ?_
    refine Gp_get 11 hm656707 he656727 dr_cX14_goal_31 (gk_X14 D I) (Nat.le_of_ble_eq_true rfl) wr_9_49 rfl ?_
    refine G_iconst 2 dr_cX14_goal_34 (by decide +kernel) ?_
    refine G_aload_n 0 dr_cX14_goal_35 rfl ?_
    refine Gp_get 13 hm656707 he656727 dr_cX14_goal_36 (gk_X14 D I) (Nat.le_of_ble_eq_true rfl) wr_9_51 rfl ?_
    refine G_imul dr_cX14_goal_39 (G_nam fun z656732 hz656732 => ?_)
    have ez656732 : z656732.toInt = 2 * p656553.toInt := by rw [gI_mul hz656732 (gBl (show Int32.toInt 2 = 2 by decide)) bp656553 (by decide) (by decide) (by decide), show Int32.toInt 2 = 2 from by decide]
    have bz656732 : gB z656732 0 2000000 := gB_mul hz656732 (gBl (show Int32.toInt 2 = 2 by decide)) bp656553 (by decide) (by decide) (by decide) (by decide)
    refine Gw_callS (As := [.ref q656541, .int z656732]) (gV_ok D I) (cp_656657_Arrays_copyOf l hl0 D I P656699 F656720 q656541 z656732 f656555 n656556 hm656709 he656724 ⟨by omega, by omega⟩ (by omega) (by omega)) dr_cX14_goal_40 ⟨wr_10_114, wr_1_30, wr_10_116, by decide, rfl, (Nat.le_of_ble_eq_true rfl), (Nat.le_of_ble_eq_true rfl)⟩ wr_10_115 (show 1 + 1 ≤ ((16 * (p656543.toInt - p656544.toInt)).toNat + 3) by first | omega | decide) (show z656648.toInt.toNat + z656732.toInt.toNat ≤ ((256 * (p656543.toInt - p656544.toInt)).toNat + 4 * n656558 + 7) by first | omega | decide) (Nat.le_of_ble_eq_true rfl) (fun r656736 w656737 dc656733 ds656734 hp656735 => ?_) (fun _ _ _ _ _ z => z.elim)
    obtain ⟨P656743, F656744, q656738, f656739, rfl, rfl, hsb656745, hfr656746, he656747, he656748, hm656749, hq656750, hdc, hds, x656740, x656741, x656742⟩ := hp656735
    have hm656751 : q656539 ∈ P656743 := hsb656745 q656539 hm656707
    have hm656752 : q656540 ∈ P656743 := hsb656745 q656540 hm656708
    have hm656753 : q656541 ∈ P656743 := hsb656745 q656541 hm656709
    have hm656754 : q656542 ∈ P656743 := hsb656745 q656542 hm656710
    have hm656755 : q656694 ∈ P656743 := hsb656745 q656694 hm656705
    have hq656756 : q656738 ∉ P656537 := fun z => hq656750 (hsb656712 q656738 z)
    have hsb656757 : rSub P656537 P656743 := rSub_tr hsb656712 hsb656745
    have he656758 : F656744 q656539 = .inr (19, [.ref q656540, .int p656543, .int p656544, .int p656545, .int p656546, .int p656547, .int p656548, .ref qo656549, .int p656550, .int p656551, .int p656552, .ref q656541, .ref q656694, .int p656553]) := (hfr656746 q656539 hm656707 nm_n).trans he656727
    have he656759 : F656744 q656540 = .inl (I .byte, 8192, .inl f656554) := (hfr656746 q656540 hm656708 nm_n).trans he656723
    have he656760 : F656744 q656542 = .inl (I .int, n656558, .inl f656557) := (hfr656746 q656542 hm656710 nm_n).trans he656725
    have he656761 : F656744 q656694 = .inl (I .int, z656648.toInt.toNat, .inl f656695) := (hfr656746 q656694 hm656705 nm_n).trans he656726
    have hfr656762 : rFr [q656539] P656537 F656538 F656744 := rFr_call hsb656712 hfr656728 hfr656746 (fun b hb hn => ⟨(nm_c (fun e => hn (e ▸ List.mem_cons_self)) nm_n), nm_n⟩)
    have tp656763 : tP I P656743 F656744 p656545 qo656549 q656542 q656541 := tP_new tp656729 hsb656745 (fun b hb => hfr656746 b hb (fun z => by cases z)) (Or.inl rfl) (Or.inl rfl)
    have tp656764 : tP I P656743 F656744 p656545 qo656549 q656738 q656541 := tP_new tp656729 hsb656745 (fun b hb => hfr656746 b hb (fun z => by cases z)) (Or.inr hq656750) (Or.inl rfl)
    have tp656765 : tP I P656743 F656744 p656545 qo656549 q656542 q656738 := tP_new tp656729 hsb656745 (fun b hb => hfr656746 b hb (fun z => by cases z)) (Or.inl rfl) (Or.inr hq656750)
    have tp656766 : tP I P656743 F656744 p656545 qo656549 q656694 q656541 := tP_new tp656730 hsb656745 (fun b hb => hfr656746 b hb (fun z => by cases z)) (Or.inl rfl) (Or.inl rfl)
    have tp656767 : tP I P656743 F656744 p656545 qo656549 q656738 q656541 := tP_new tp656730 hsb656745 (fun b hb => hfr656746 b hb (fun z => by cases z)) (Or.inr hq656750) (Or.inl rfl)
    have tp656768 : tP I P656743 F656744 p656545 qo656549 q656694 q656738 := tP_new tp656730 hsb656745 (fun b hb => hfr656746 b hb (fun z => by cases z)) (Or.inl rfl) (Or.inr hq656750)
    have tp656769 : tP I P656743 F656744 p656545 qo656549 q656542 q656694 := tP_new tp656731 hsb656745 (fun b hb => hfr656746 b hb (fun z => by cases z)) (Or.inl rfl) (Or.inl rfl)
    have tp656770 : tP I P656743 F656744 p656545 qo656549 q656738 q656694 := tP_new tp656731 hsb656745 (fun b hb => hfr656746 b hb (fun z => by cases z)) (Or.inr hq656750) (Or.inl rfl)
    have tp656771 : tP I P656743 F656744 p656545 qo656549 q656542 q656738 := tP_new tp656731 hsb656745 (fun b hb => hfr656746 b hb (fun z => by cases z)) (Or.inl rfl) (Or.inr hq656750)
    have hne656772 : q656694 ≠ q656738 := fun h => hq656750 (h ▸ hm656705)
    change G _ _ _ _ _ _ _ (.ref q656738 :: _) _ _ _
    refine G_widen (cs' := 2) (sl' := z656648.toInt.toNat + z656732.toInt.toNat) (by omega) (by omega) ?_
    refine Gp_put 11 hm656751 he656758 dr_cX14_goal_43 (gk_X14 D I) (Nat.le_of_ble_eq_true rfl) wr_9_49 rfl rfl rfl (Nat.le_of_ble_eq_true rfl) (fun F656773 e656774 n656775 => ?_)
    have he656776 : F656773 q656540 = .inl (I .byte, 8192, .inl f656554) := (n656775 q656540 (rn_ao he656759 he656758)).trans he656759
    have he656777 : F656773 q656542 = .inl (I .int, n656558, .inl f656557) := (n656775 q656542 (rn_ao he656760 he656758)).trans he656760
    have he656778 : F656773 q656694 = .inl (I .int, z656648.toInt.toNat, .inl f656695) := (n656775 q656694 (fun h => hq656711 (h ▸ hmq656539))).trans he656761
    have he656779 : F656773 q656541 = .inl (I .int, n656556, .inl f656555) := (n656775 q656541 (rn_ao he656747 he656758)).trans he656747
    have he656780 : F656773 q656738 = .inl (I .int, z656732.toInt.toNat, .inl f656739) := (n656775 q656738 (fun h => hq656756 (h ▸ hmq656539))).trans he656748
    have he656781 : F656773 q656539 = .inr (19, [.ref q656540, .int p656543, .int p656544, .int p656545, .int p656546, .int p656547, .int p656548, .ref qo656549, .int p656550, .int p656551, .int p656552, .ref q656738, .ref q656694, .int p656553]) := e656774
    have hfr656782 : rFr [q656539] P656537 F656538 F656773 := rFr_put' List.mem_cons_self hfr656762 n656775
    have tp656783 : tP I P656743 F656773 p656545 qo656549 q656542 q656541 := tP_put tp656763 he656758 (by decide) n656775
    have tp656784 : tP I P656743 F656773 p656545 qo656549 q656738 q656541 := tP_put tp656764 he656758 (by decide) n656775
    have tp656785 : tP I P656743 F656773 p656545 qo656549 q656542 q656738 := tP_put tp656765 he656758 (by decide) n656775
    have tp656786 : tP I P656743 F656773 p656545 qo656549 q656694 q656541 := tP_put tp656766 he656758 (by decide) n656775
    have tp656787 : tP I P656743 F656773 p656545 qo656549 q656738 q656541 := tP_put tp656767 he656758 (by decide) n656775
    have tp656788 : tP I P656743 F656773 p656545 qo656549 q656694 q656738 := tP_put tp656768 he656758 (by decide) n656775
    have tp656789 : tP I P656743 F656773 p656545 qo656549 q656542 q656694 := tP_put tp656769 he656758 (by decide) n656775
    have tp656790 : tP I P656743 F656773 p656545 qo656549 q656738 q656694 := tP_put tp656770 he656758 (by decide) n656775
    have tp656791 : tP I P656743 F656773 p656545 qo656549 q656542 q656738 := tP_put tp656771 he656758 (by decide) n656775
    refine G_aload_n 0 dr_cX14_goal_46 rfl ?_
    refine Gp_get 11 hm656751 he656781 dr_cX14_goal_47 (gk_X14 D I) (Nat.le_of_ble_eq_true rfl) wr_9_49 rfl ?_
    refine G_aload_n 0 dr_cX14_goal_50 rfl ?_
    refine Gp_get 13 hm656751 he656781 dr_cX14_goal_51 (gk_X14 D I) (Nat.le_of_ble_eq_true rfl) wr_9_51 rfl ?_
    refine G_aload_n 0 dr_cX14_goal_54 rfl ?_
    refine Gp_get 4 hm656751 he656781 dr_cX14_goal_55 (gk_X14 D I) (Nat.le_of_ble_eq_true rfl) wr_9_40 rfl ?_
    refine Gp_iast 0 hm656749 he656780 dr_cX14_goal_58 rfl (gB_inr (by omega) (by omega)) (fun F656792 e656793 n656794 => ?_)
    obtain ⟨f656795, hf656795⟩ : ∃ z, z = upd f656739 p656553.toNatClampNeg p656546 := ⟨_, rfl⟩
    rw [← hf656795] at e656793
    have he656796 : F656792 q656539 = .inr (19, [.ref q656540, .int p656543, .int p656544, .int p656545, .int p656546, .int p656547, .int p656548, .ref qo656549, .int p656550, .int p656551, .int p656552, .ref q656738, .ref q656694, .int p656553]) := (n656794 q656539 (fun h => hq656756 (h ▸ hmq656539))).trans he656781
    have he656797 : F656792 q656540 = .inl (I .byte, 8192, .inl f656554) := (n656794 q656540 (fun h => hq656756 (h ▸ hmq656540))).trans he656776
    have he656798 : F656792 q656542 = .inl (I .int, n656558, .inl f656557) := (n656794 q656542 (fun h => hq656756 (h ▸ hmq656542))).trans he656777
    have he656799 : F656792 q656694 = .inl (I .int, z656648.toInt.toNat, .inl f656695) := (n656794 q656694 hne656772).trans he656778
    have he656800 : F656792 q656541 = .inl (I .int, n656556, .inl f656555) := (n656794 q656541 (fun h => hq656756 (h ▸ hmq656541))).trans he656779
    have he656801 : F656792 q656738 = .inl (I .int, z656732.toInt.toNat, .inl f656795) := e656793
    have hfr656802 : rFr [q656539] P656537 F656538 F656792 := rFr_newp hq656756 hfr656782 n656794
    have tp656804 : tP I P656743 F656792 p656545 qo656549 q656738 q656541 := tP_pa tp656784 he656780 (Or.inl rfl) n656794
    have tp656805 : tP I P656743 F656792 p656545 qo656549 q656542 q656738 := tP_pa tp656785 he656780 (Or.inr rfl) n656794
    have tp656807 : tP I P656743 F656792 p656545 qo656549 q656738 q656541 := tP_pa tp656787 he656780 (Or.inl rfl) n656794
    have tp656808 : tP I P656743 F656792 p656545 qo656549 q656694 q656738 := tP_pa tp656788 he656780 (Or.inr rfl) n656794
    have tp656810 : tP I P656743 F656792 p656545 qo656549 q656738 q656694 := tP_pa tp656790 he656780 (Or.inl rfl) n656794
    have tp656811 : tP I P656743 F656792 p656545 qo656549 q656542 q656738 := tP_pa tp656791 he656780 (Or.inr rfl) n656794
    refine G_aload_n 0 dr_cX14_goal_59 rfl ?_
    refine G_iconst 3 dr_cX14_goal_60 (by decide +kernel) ?_
    refine Gw_callV (As := [.int 3]) (gV_ok D I) (cp_655798_Reader_want l hl0 D I P656743 F656792 q656539 q656540 3 p656543 p656544 p656545 p656546 p656547 p656548 qo656549 p656550 p656551 p656552 q656738 q656694 p656553 f656554 hm656751 hm656752 he656796 he656797 (gB_w (gBl (show Int32.toInt 3 = 3 by decide)) (by decide) (by decide)) bp656543 bp656544 bp656545 bp656546 bp656548 bp656550 bp656551 bp656552 bp656553 bf656554 (by omega) hm656755 hm656749 tp656808 x656561) dr_cX14_goal_61 ⟨wr_9_93, wr_1_32, wr_9_96, by decide, rfl, (Nat.le_of_ble_eq_true rfl), (Nat.le_of_ble_eq_true rfl)⟩ wr_9_95 wr_p_80 hm656751 he656796 rfl (show 2 + ((16 * (p656543.toInt - p656544.toInt)).toNat + 1) ≤ ((16 * (p656543.toInt - p656544.toInt)).toNat + 3) by first | omega | decide) (show z656648.toInt.toNat + z656732.toInt.toNat + ((256 * (p656543.toInt - p656544.toInt)).toNat + 7) ≤ ((256 * (p656543.toInt - p656544.toInt)).toNat + 4 * n656558 + 7) by first | omega | decide) (Nat.le_of_ble_eq_true rfl) (fun r656815 w656816 dc656812 ds656813 hp656814 => ?_) (fun _ qx656828 _ dc656826 ds656827 hx => by obtain ⟨P656824, F656825, rfl, rfl, hsb656817, hfr656818, hq656819, hqn656820, hwr656821, hdc656822, hds656823⟩ := hx; exact GT_outA rfl (show 2 + dc656826 ≤ ((16 * (p656543.toInt - p656544.toInt)).toNat + 3) by omega) (show z656648.toInt.toNat + z656732.toInt.toNat + ds656827 ≤ ((256 * (p656543.toInt - p656544.toInt)).toNat + 4 * n656558 + 7) by omega) ⟨P656824, F656825, rfl, rfl, (rSub_tr hsb656757 hsb656817), (rFr_v (show rFr [q656539] P656537 F656538 F656825 from rFr_call hsb656757 hfr656802 hfr656818 (fun b hb hn => ⟨(nm_c (fun e => hn (e ▸ List.mem_cons_self)) nm_n), nm_n⟩)) (fun b hn => (nm_c (fun e => hn (e ▸ (List.mem_cons_of_mem _ List.mem_cons_self))) nm_n))), hq656819, (fun z => hqn656820 (hsb656757 _ z)), hwr656821, (by omega), (by omega)⟩)
    obtain ⟨P656841, F656842, o656829, o656830, o656831, o656832, q656833, rfl, rfl, hsb656843, hfr656844, he656845, he656846, hdc, hds, bo656829, bo656830, bo656831, x656834, x656835, x656836, x656837, x656838, x656839, x656840⟩ := hp656814
    have hm656847 : q656539 ∈ P656841 := hsb656843 q656539 hm656751
    have hm656848 : q656540 ∈ P656841 := hsb656843 q656540 hm656752
    have hm656849 : q656541 ∈ P656841 := hsb656843 q656541 hm656753
    have hm656850 : q656542 ∈ P656841 := hsb656843 q656542 hm656754
    have hm656851 : q656694 ∈ P656841 := hsb656843 q656694 hm656755
    have hm656852 : q656738 ∈ P656841 := hsb656843 q656738 hm656749
    have hsb656853 : rSub P656537 P656841 := rSub_tr hsb656757 hsb656843
    have he656854 : F656842 q656542 = .inl (I .int, n656558, .inl f656557) := (hfr656844 q656542 hm656754 (nm_c (rn_ao he656798 he656796) nm_n)).trans he656798
    have he656855 : F656842 q656694 = .inl (I .int, z656648.toInt.toNat, .inl f656695) := (hfr656844 q656694 hm656755 (nm_c (fun h => hq656711 (h ▸ hmq656539)) nm_n)).trans he656799
    have he656856 : F656842 q656541 = .inl (I .int, n656556, .inl f656555) := (hfr656844 q656541 hm656753 (nm_c (rn_ao he656800 he656796) nm_n)).trans he656800
    have he656857 : F656842 q656738 = .inl (I .int, z656732.toInt.toNat, .inl f656795) := (hfr656844 q656738 hm656749 (nm_c (fun h => hq656756 (h ▸ hmq656539)) nm_n)).trans he656801
    have hfr656858 : rFr [q656539] P656537 F656538 F656842 := rFr_call hsb656757 hfr656802 hfr656844 (fun b hb hn => ⟨(nm_c (fun e => hn (e ▸ List.mem_cons_self)) nm_n), (nm_c (fun e => hn (e ▸ List.mem_cons_self)) nm_n)⟩)
    have bo656832 := gB_any o656832
    rw [show Int32.toInt 3 = 3 from by decide] at x656840
    change G _ _ _ _ _ _ _ (.int p656547 :: _) _ _ _
    refine G_widen (cs' := 2 + ((16 * (o656829.toInt - p656544.toInt)).toNat)) (sl' := z656648.toInt.toNat + z656732.toInt.toNat + ((256 * (o656829.toInt - p656544.toInt)).toNat)) (by omega) (by omega) ?_
    refine G_istore_n (L' := [(1, .int p656547), (0, .ref q656539)]) dr_cX14_goal_64 (Nat.le_of_ble_eq_true rfl) rfl ?_
    refine G_aload_n 1 dr_cX14_goal_65 rfl ?_
    refine Gp_get 12 hm656847 he656845 dr_cX14_goal_66 (gk_X14 D I) (Nat.le_of_ble_eq_true rfl) wr_9_50 rfl ?_
    refine G_aload_n 1 dr_cX14_goal_69 rfl ?_
    refine Gp_get 13 hm656847 he656845 dr_cX14_goal_70 (gk_X14 D I) (Nat.le_of_ble_eq_true rfl) wr_9_51 rfl ?_
    refine G_iload_n 0 dr_cX14_goal_73 rfl ?_
    refine Gp_iast 0 hm656851 he656855 dr_cX14_goal_74 rfl (gB_inr (by omega) (by omega)) (fun F656859 e656860 n656861 => ?_)
    obtain ⟨f656862, hf656862⟩ : ∃ z, z = upd f656695 p656553.toNatClampNeg p656547 := ⟨_, rfl⟩
    rw [← hf656862] at e656860
    have he656863 : F656859 q656542 = .inl (I .int, n656558, .inl f656557) := (n656861 q656542 (fun h => hq656711 (h ▸ hmq656542))).trans he656854
    have he656864 : F656859 q656541 = .inl (I .int, n656556, .inl f656555) := (n656861 q656541 (fun h => hq656711 (h ▸ hmq656541))).trans he656856
    have he656865 : F656859 q656738 = .inl (I .int, z656732.toInt.toNat, .inl f656795) := (n656861 q656738 (Ne.symm hne656772)).trans he656857
    have he656866 : F656859 q656539 = .inr (19, [.ref q656540, .int p656543, .int o656829, .int o656830, .int o656831, .int o656832, .int p656545, .ref q656833, .int p656550, .int p656551, .int p656552, .ref q656738, .ref q656694, .int p656553]) := (n656861 q656539 (fun h => hq656711 (h ▸ hmq656539))).trans he656845
    have he656867 : F656859 q656540 = .inl (I .byte, 8192, .inl f656554) := (n656861 q656540 (fun h => hq656711 (h ▸ hmq656540))).trans he656846
    have he656868 : F656859 q656694 = .inl (I .int, z656648.toInt.toNat, .inl f656862) := e656860
    have hfr656869 : rFr [q656539] P656537 F656538 F656859 := rFr_newp hq656711 hfr656858 n656861
    have tp656870 : tP I P656841 F656859 o656830 q656833 q656694 q656738 := tP_pa x656837 he656855 (Or.inl rfl) n656861
    refine G_aload_n 1 dr_cX14_goal_75 rfl ?_
    refine G_dup dr_cX14_goal_76 rfl ?_
    refine Gp_get 13 hm656847 he656866 dr_cX14_goal_77 (gk_X14 D I) (Nat.le_of_ble_eq_true rfl) wr_9_51 rfl ?_
    refine G_iconst 1 dr_cX14_goal_80 (by decide +kernel) ?_
    refine G_iadd dr_cX14_goal_81 (G_nam fun z656871 hz656871 => ?_)
    have ez656871 : z656871.toInt = p656553.toInt + 1 := by rw [gI_add hz656871 bp656553 (gBl (show Int32.toInt 1 = 1 by decide)) (by decide) (by decide), show Int32.toInt 1 = 1 from by decide]
    have bz656871 : gB z656871 1 1000001 := gB_add (gI_add hz656871 bp656553 (gBl (show Int32.toInt 1 = 1 by decide)) (by decide) (by decide)) bp656553 (gBl (show Int32.toInt 1 = 1 by decide)) (by decide) (by decide)
    refine Gp_put 13 hm656847 he656866 dr_cX14_goal_82 (gk_X14 D I) (Nat.le_of_ble_eq_true rfl) wr_9_51 rfl rfl rfl (Nat.le_of_ble_eq_true rfl) (fun F656872 e656873 n656874 => ?_)
    have he656875 : F656872 q656542 = .inl (I .int, n656558, .inl f656557) := (n656874 q656542 (rn_ao he656863 he656866)).trans he656863
    have he656876 : F656872 q656694 = .inl (I .int, z656648.toInt.toNat, .inl f656862) := (n656874 q656694 (fun h => hq656711 (h ▸ hmq656539))).trans he656868
    have he656877 : F656872 q656541 = .inl (I .int, n656556, .inl f656555) := (n656874 q656541 (rn_ao he656864 he656866)).trans he656864
    have he656878 : F656872 q656738 = .inl (I .int, z656732.toInt.toNat, .inl f656795) := (n656874 q656738 (fun h => hq656756 (h ▸ hmq656539))).trans he656865
    have he656879 : F656872 q656540 = .inl (I .byte, 8192, .inl f656554) := (n656874 q656540 (rn_ao he656867 he656866)).trans he656867
    have he656880 : F656872 q656539 = .inr (19, [.ref q656540, .int p656543, .int o656829, .int o656830, .int o656831, .int o656832, .int p656545, .ref q656833, .int p656550, .int p656551, .int p656552, .ref q656738, .ref q656694, .int z656871]) := e656873
    have hfr656881 : rFr [q656539] P656537 F656538 F656872 := rFr_put' List.mem_cons_self hfr656869 n656874
    have tp656882 : tP I P656841 F656872 o656830 q656833 q656694 q656738 := tP_put tp656870 he656866 (by decide) n656874
    refine G_iload_n 0 dr_cX14_goal_85 rfl ?_
    exact G_iretA dr_cX14_goal_86 rfl (show 2 + ((16 * (o656829.toInt - p656544.toInt)).toNat) ≤ ((16 * (p656543.toInt - p656544.toInt)).toNat + 3) by omega) (show z656648.toInt.toNat + z656732.toInt.toNat + ((256 * (o656829.toInt - p656544.toInt)).toNat) ≤ ((256 * (p656543.toInt - p656544.toInt)).toNat + 4 * n656558 + 7) by omega) ⟨P656841, F656872, o656829, o656830, o656831, o656832, q656833, z656871, q656738, z656732.toInt.toNat, f656795, q656694, z656648.toInt.toNat, f656862, rfl, rfl, hsb656853, (rFr_v hfr656881 (fun b hn => (nm_c (fun e => hn (e ▸ (List.mem_cons_of_mem _ (List.mem_cons_of_mem _ List.mem_cons_self)))) nm_n))), he656878, he656876, he656880, he656879, hm656852, (Or.inr hq656756), hm656851, (Or.inr hq656711), (by omega), (by omega), bo656829, bo656830, bo656831, ⟨by omega, by omega⟩, (by omega), x656835, (by omega), tp656882, x656838, x656839, (by omega), (by omega), hne656772, (glC_u hf656862 (glC_tr glC_rf x656697 (show p656553.toInt ≤ p656553.toInt from Int.le_refl _) (by omega)) (by omega)), (glL_u hf656862), (glP_u hf656795 (glP_b x656742 x656567) (by first | assumption | exact ⟨by omega, by omega⟩)), (by omega), (by omega), (by omega), (by omega), (by omega), (by omega)⟩
abbrev ky_656933_Reader_row : gKey := (cX14_row, 2, "SpillForgeModel$Reader", none, [], "row", fun _ _ => True)
def pp_656933_Reader_row (D : va_G) (I : FieldType → ClassId) (P656899 : List Nat) (F656900 : Nat → va_E) (q656901 : Nat) (q656902 : Nat) (q656903 : Nat) (p656904 : Int32) (p656905 : Int32) (p656906 : Int32) (p656907 : Int32) (p656908 : Int32) (p656909 : Int32) (qo656910 : Nat) (p656911 : Int32) (p656912 : Int32) (p656913 : Int32) (qo656914 : Nat) (qo656915 : Nat) (p656916 : Int32) (p656917 : Int32) (p656918 : Int32) (p656919 : Int32) (p656920 : Int32) (p656921 : Int32) (p656922 : Int32) (p656923 : Int32) (f656924 : Nat → Int32) : Option Value → va_W → Nat → Nat → Prop := fun r w dc ds => ∃ (P657392 : List Nat) (F657393 : Nat → va_E) (o657380 : Int32) (o657381 : Int32) (o657382 : Int32) (o657383 : Int32) (o657384 : Int32) (q657385 : Nat) (o657386 : Int32) (o657387 : Int32) (o657388 : Int32) (o657389 : Int32) (o657390 : Int32) (o657391 : Int32), r = none ∧ w = va_pl P657392 F657393 ∧ rSub P656899 P657392 ∧ rFr [q656902, q656901] P656899 F656900 F657393 ∧ F657393 q656902 = .inr (20, [.int o657386, .int o657387, .int o657388, .int o657389, .int p656921, .int o657390, .int o657391]) ∧ F657393 q656901 = .inr (19, [.ref q656903, .int p656904, .int o657380, .int o657381, .int o657382, .int o657383, .int o657384, .ref q657385, .int p656911, .int p656912, .int p656913, .ref qo656914, .ref qo656915, .int p656916]) ∧ F657393 q656903 = .inl (I .byte, 8192, .inl f656924) ∧ dc ≤ (16 * (o657380.toInt - p656905.toInt)).toNat + 8 ∧ ds ≤ (256 * (o657380.toInt - p656905.toInt)).toNat + 64 ∧ gB o657380 0 8192 ∧ gB o657381 0 6 ∧ gB o657382 0 8192 ∧ gB o657384 0 6 ∧ gB o657386 0 22 ∧ gB o657387 0 1999 ∧ gB o657390 0 1 ∧ gB o657391 0 1 ∧ p656905.toInt ≤ o657380.toInt ∧ prP o657381 p656905 o657380 ∧ o657380.toInt ≤ p656904.toInt ∧ tP I P657392 F657393 o657381 q657385 qo656915 qo656914 ∧ vP o657381 o657383 ∧ rwP o657390 o657388 ∧ rwP o657391 o657389 ∧ opP o657386 ∧ opQ o657386 ∧ nzK p656906 ∧ rwQ p656905 o657380 o657381
def xp_656933_Reader_row (D : va_G) (I : FieldType → ClassId) (P656899 : List Nat) (F656900 : Nat → va_E) (q656901 : Nat) (q656902 : Nat) (q656903 : Nat) (p656904 : Int32) (p656905 : Int32) (p656906 : Int32) (p656907 : Int32) (p656908 : Int32) (p656909 : Int32) (qo656910 : Nat) (p656911 : Int32) (p656912 : Int32) (p656913 : Int32) (qo656914 : Nat) (qo656915 : Nat) (p656916 : Int32) (p656917 : Int32) (p656918 : Int32) (p656919 : Int32) (p656920 : Int32) (p656921 : Int32) (p656922 : Int32) (p656923 : Int32) (f656924 : Nat → Int32) : String → Nat → va_W → Nat → Nat → Prop := fun E q w dc ds => ∃ (P657395 : List Nat) (F657394 : Nat → va_E), E = "SpillForgeModel$Wrong" ∧ w = va_pl P657395 F657394 ∧ rSub P656899 P657395 ∧ rFr [q656902, q656901] P656899 F656900 F657394 ∧ q ∈ P657395 ∧ q ∉ P656899 ∧ wrF F657394 q ∧ dc ≤ (16 * (p656904.toInt - p656905.toInt)).toNat + 9 ∧ ds ≤ (256 * (p656904.toInt - p656905.toInt)).toNat + 71 ∧ rkR (F657394 q656902)
set_option maxRecDepth 100000 in
set_option maxHeartbeats 4000000 in
theorem cp_656933_Reader_row (l : Launch) (hl0 : l.stackTraces = false) (D : va_G) (I : FieldType → ClassId) (P656899 : List Nat) (F656900 : Nat → va_E) (q656901 : Nat) (q656902 : Nat) (q656903 : Nat) (p656904 : Int32) (p656905 : Int32) (p656906 : Int32) (p656907 : Int32) (p656908 : Int32) (p656909 : Int32) (qo656910 : Nat) (p656911 : Int32) (p656912 : Int32) (p656913 : Int32) (qo656914 : Nat) (qo656915 : Nat) (p656916 : Int32) (p656917 : Int32) (p656918 : Int32) (p656919 : Int32) (p656920 : Int32) (p656921 : Int32) (p656922 : Int32) (p656923 : Int32) (f656924 : Nat → Int32) (hmq656901 : q656901 ∈ P656899) (hmq656902 : q656902 ∈ P656899) (hmq656903 : q656903 ∈ P656899) (heq656901 : F656900 q656901 = .inr (19, [.ref q656903, .int p656904, .int p656905, .int p656906, .int p656907, .int p656908, .int p656909, .ref qo656910, .int p656911, .int p656912, .int p656913, .ref qo656914, .ref qo656915, .int p656916])) (heq656902 : F656900 q656902 = .inr (20, [.int p656917, .int p656918, .int p656919, .int p656920, .int p656921, .int p656922, .int p656923])) (heq656903 : F656900 q656903 = .inl (I .byte, 8192, .inl f656924)) (bp656904 : gB p656904 0 8192) (bp656905 : gB p656905 0 8192) (bp656906 : gB p656906 0 6) (bp656907 : gB p656907 0 8192) (bp656909 : gB p656909 0 6) (bp656911 : gB p656911 (-1) 8192) (bp656912 : gB p656912 0 4) (bp656913 : gB p656913 0 1000000) (bp656916 : gB p656916 0 1000000) (bp656917 : gB p656917 0 32) (bp656918 : gB p656918 0 1999) (bp656921 : gB p656921 0 1999) (bp656922 : gB p656922 0 1) (bp656923 : gB p656923 0 1) (bf656924 : gF f656924 (-128) 127) (x656925 : p656905.toInt ≤ p656904.toInt) (x656926 : qo656915 ∈ P656899) (x656927 : qo656914 ∈ P656899) (x656928 : tP I P656899 F656900 p656906 qo656910 qo656915 qo656914) (x656929 : vP p656906 p656908) (x656930 : rwP p656922 p656919) (x656931 : rwP p656923 p656920) (x656932 : opP p656917) : CtA (gV D I) l yX14_row cX14_row 2 none 9 200 ((16 * (p656904.toInt - p656905.toInt)).toNat + 9) ((256 * (p656904.toInt - p656905.toInt)).toNat + 71) [.ref q656901, .ref q656902] (va_pl P656899 F656900) (pp_656933_Reader_row D I P656899 F656900 q656901 q656902 q656903 p656904 p656905 p656906 p656907 p656908 p656909 qo656910 p656911 p656912 p656913 qo656914 qo656915 p656916 p656917 p656918 p656919 p656920 p656921 p656922 p656923 f656924) (xp_656933_Reader_row D I P656899 F656900 q656901 q656902 q656903 p656904 p656905 p656906 p656907 p656908 p656909 qo656910 p656911 p656912 p656913 qo656914 qo656915 p656916 p656917 p656918 p656919 p656920 p656921 p656922 p656923 f656924) := by
  refine CtA_of hl0 (by decide) (Nat.le_of_ble_eq_true rfl) ?_
  have bp656908 := gB_any p656908
  have bp656919 := gB_any p656919
  have bp656920 := gB_any p656920
  refine G_aload_n 0 dr_cX14_row_0 rfl ?_
  refine G_ldcK (a := D.2 1000 39) dr_cX14_row_1 (fun _ _ _ h => gx_vk 39 rfl rfl h) ?_
  have hl39_656933 : (sb_39.length : Int) = 4 := rfl
  refine Gw_callV (As := [.ref (D.2 1000 39)]) (gV_ok D I) (cp_655627_Reader_is l hl0 D I P656899 F656900 q656901 q656903 (D.2 1000 39) (D.2 1001 39) sb_39 p656904 p656905 p656906 p656907 p656908 p656909 qo656910 p656911 p656912 p656913 qo656914 qo656915 p656916 f656924 hmq656901 hmq656903 heq656901 heq656903 (gx_sc 39 rfl rfl) (by omega) (by decide +kernel) bp656904 bp656905 bp656906 bp656907 bp656909 bp656911 bp656912 bp656913 bp656916 bf656924 x656928) dr_cX14_row_3 ⟨wr_9_141, wr_1_32, wr_9_144, by decide, rfl, (Nat.le_of_ble_eq_true rfl), (Nat.le_of_ble_eq_true rfl)⟩ wr_9_143 wr_p_84 hmq656901 heq656901 rfl (show 0 + 0 ≤ ((16 * (p656904.toInt - p656905.toInt)).toNat + 9) by first | omega | decide) (show 0 + 0 ≤ ((256 * (p656904.toInt - p656905.toInt)).toNat + 71) by first | omega | decide) (Nat.le_of_ble_eq_true rfl) (fun r656938 w656939 dc656935 ds656936 hp656937 => ?_) (fun _ _ _ _ _ z => z.elim)
  obtain ⟨o656940, rfl, rfl, hdc, hds, bo656940, x656941⟩ := hp656937
  change G _ _ _ _ _ _ _ (.int o656940 :: _) _ _ _
  refine G_widen (cs' := 0) (sl' := 0) (by omega) (by omega) ?_
  refine G_if_eq 26 dr_cX14_row_6 (by decide +kernel) (fun hc656942 => ?_) (fun hc656942 => ?_)
  · have r656943 : o656940.toInt = 0 := gj_eq hc656942 (show Int32.toInt 0 = 0 by decide)
    have bo656940' : gB o656940 0 0 := ⟨by omega, by omega⟩
    refine G_aload_n 1 dr_cX14_row_26 rfl ?_
    refine G_aload_n 0 dr_cX14_row_27 rfl ?_
    refine G_iconst 2 dr_cX14_row_28 (by decide +kernel) ?_
    refine Gw_callV (As := [.int 2]) (gV_ok D I) (cp_655798_Reader_want l hl0 D I P656899 F656900 q656901 q656903 2 p656904 p656905 p656906 p656907 p656908 p656909 qo656910 p656911 p656912 p656913 qo656914 qo656915 p656916 f656924 hmq656901 hmq656903 heq656901 heq656903 (gB_w (gBl (show Int32.toInt 2 = 2 by decide)) (by decide) (by decide)) bp656904 bp656905 bp656906 bp656907 bp656909 bp656911 bp656912 bp656913 bp656916 bf656924 (by omega) x656926 x656927 x656928 x656929) dr_cX14_row_29 ⟨wr_9_93, wr_1_32, wr_9_96, by decide, rfl, (Nat.le_of_ble_eq_true rfl), (Nat.le_of_ble_eq_true rfl)⟩ wr_9_95 wr_p_80 hmq656901 heq656901 rfl (show 0 + ((16 * (p656904.toInt - p656905.toInt)).toNat + 1) ≤ ((16 * (p656904.toInt - p656905.toInt)).toNat + 9) by first | omega | decide) (show 0 + ((256 * (p656904.toInt - p656905.toInt)).toNat + 7) ≤ ((256 * (p656904.toInt - p656905.toInt)).toNat + 71) by first | omega | decide) (Nat.le_of_ble_eq_true rfl) (fun r656947 w656948 dc656944 ds656945 hp656946 => ?_) (fun _ qx656960 _ dc656958 ds656959 hx => by obtain ⟨P656956, F656957, rfl, rfl, hsb656949, hfr656950, hq656951, hqn656952, hwr656953, hdc656954, hds656955⟩ := hx; exact GT_outA rfl (show 0 + dc656958 ≤ ((16 * (p656904.toInt - p656905.toInt)).toNat + 9) by omega) (show 0 + ds656959 ≤ ((256 * (p656904.toInt - p656905.toInt)).toNat + 71) by omega) ⟨P656956, F656957, rfl, rfl, (rSub_tr (rSub_rf (P := P656899)) hsb656949), (rFr_v (show rFr [] P656899 F656900 F656957 from rFr_call (rSub_rf (P := P656899)) (rFr_rf (W := []) (P := P656899) (F := F656900)) hfr656950 (fun b hb hn => ⟨nm_n, nm_n⟩)) (fun b hn => nm_n)), hq656951, (fun z => hqn656952 ((rSub_rf (P := P656899)) _ z)), hwr656953, (by omega), (by omega), ⟨p656917, p656918, p656919, p656920, p656921, p656922, p656923, ((hfr656950 q656902 hmq656902 nm_n).trans heq656902), bp656917, bp656918, bp656921, bp656922, bp656923, x656932, x656930, x656931⟩⟩)
    obtain ⟨P656973, F656974, o656961, o656962, o656963, o656964, q656965, rfl, rfl, hsb656975, hfr656976, he656977, he656978, hdc, hds, bo656961, bo656962, bo656963, x656966, x656967, x656968, x656969, x656970, x656971, x656972⟩ := hp656946
    have hm656979 : q656901 ∈ P656973 := hsb656975 q656901 hmq656901
    have hm656980 : q656902 ∈ P656973 := hsb656975 q656902 hmq656902
    have hm656981 : q656903 ∈ P656973 := hsb656975 q656903 hmq656903
    have hsb656982 : rSub P656899 P656973 := rSub_tr (rSub_rf (P := P656899)) hsb656975
    have he656983 : F656974 q656902 = .inr (20, [.int p656917, .int p656918, .int p656919, .int p656920, .int p656921, .int p656922, .int p656923]) := (hfr656976 q656902 hmq656902 (nm_c (rn_oo heq656902 heq656901 (by decide)) nm_n)).trans heq656902
    have hfr656984 : rFr [q656901] P656899 F656900 F656974 := rFr_call (rSub_rf (P := P656899)) (rFr_rf (W := []) (P := P656899) (F := F656900)) hfr656976 (fun b hb hn => ⟨nm_n, (nm_c (fun e => hn (e ▸ List.mem_cons_self)) nm_n)⟩)
    have bo656964 := gB_any o656964
    rw [show Int32.toInt 2 = 2 from by decide] at x656972
    change G _ _ _ _ _ _ _ (.int p656908 :: _) _ _ _
    refine G_widen (cs' := (16 * (o656961.toInt - p656905.toInt)).toNat) (sl' := (256 * (o656961.toInt - p656905.toInt)).toNat) (by omega) (by omega) ?_
    have bv656985 : gB p656908 0 99 := vP_g2 x656971
    have x656986 : p656905.toInt ≤ o656961.toInt := by omega
    have x656987 : p656905.toInt + 0 ≤ p656905.toInt := by omega
    have x656988 : p656905.toInt + 0 ≤ o656961.toInt := by omega
    have x656989 : prQ o656962 (p656905.toInt + 1) o656961 := prP_q x656967 x656987 (by omega)
    refine G_widen (cs' := (16 * (o656961.toInt - p656905.toInt) + 0 : Int).toNat) (sl' := (256 * (o656961.toInt - p656905.toInt) + 0 : Int).toNat) (by omega) (by omega) ?_
    refine Gp_put 1 hm656980 he656983 dr_cX14_row_32 (gk_X15 D I) (Nat.le_of_ble_eq_true rfl) wr_9_183 rfl rfl rfl (Nat.le_of_ble_eq_true rfl) (fun F656990 e656991 n656992 => ?_)
    have he656993 : F656990 q656901 = .inr (19, [.ref q656903, .int p656904, .int o656961, .int o656962, .int o656963, .int o656964, .int p656906, .ref q656965, .int p656911, .int p656912, .int p656913, .ref qo656914, .ref qo656915, .int p656916]) := (n656992 q656901 (rn_oo he656977 he656983 (by decide))).trans he656977
    have he656994 : F656990 q656903 = .inl (I .byte, 8192, .inl f656924) := (n656992 q656903 (rn_ao he656978 he656983)).trans he656978
    have he656995 : F656990 q656902 = .inr (20, [.int p656917, .int p656908, .int p656919, .int p656920, .int p656921, .int p656922, .int p656923]) := e656991
    have hfr656996 : rFr [q656902, q656901] P656899 F656900 F656990 := rFr_put hfr656984 n656992
    have tp656997 : tP I P656973 F656990 o656962 q656965 qo656915 qo656914 := tP_put x656969 he656983 (by decide) n656992
    clear bo656940 hsb656975 hfr656976 he656977 he656978 he656983 hfr656984; try clear r656938; try clear w656939; try clear dc656935; try clear ds656936; try clear hp656937; try clear r656947; try clear w656948; try clear dc656944; try clear ds656945; try clear hp656946
    refine G_aload_n 0 dr_cX14_row_35 rfl ?_
    refine G_ldcK (a := D.2 1000 40) dr_cX14_row_36 (fun _ _ _ h => gx_vk 40 rfl rfl h) ?_
    have hl40_656997 : (sb_40.length : Int) = 1 := rfl
    refine Gw_callV (As := [.ref (D.2 1000 40)]) (gV_ok D I) (cp_655708_Reader_want l hl0 D I P656973 F656990 q656901 q656903 (D.2 1000 40) (D.2 1001 40) sb_40 p656904 o656961 o656962 o656963 o656964 p656906 q656965 p656911 p656912 p656913 qo656914 qo656915 p656916 f656924 hm656979 hm656981 he656993 he656994 (gx_sc 40 rfl rfl) (by omega) (by decide +kernel) bp656904 bo656961 bo656962 bo656963 bp656906 bp656911 bp656912 bp656913 bp656916 bf656924 (by omega) (hsb656982 _ x656926) (hsb656982 _ x656927) tp656997) dr_cX14_row_38 ⟨wr_9_137, wr_1_32, wr_9_140, by decide, rfl, (Nat.le_of_ble_eq_true rfl), (Nat.le_of_ble_eq_true rfl)⟩ wr_9_139 wr_p_83 hm656979 he656993 rfl (show (16 * (o656961.toInt - p656905.toInt) + 0 : Int).toNat + ((16 * (p656904.toInt - o656961.toInt)).toNat + 1) ≤ ((16 * (p656904.toInt - p656905.toInt)).toNat + 9) by first | omega | decide) (show (256 * (o656961.toInt - p656905.toInt) + 0 : Int).toNat + ((256 * (p656904.toInt - o656961.toInt)).toNat + 7) ≤ ((256 * (p656904.toInt - p656905.toInt)).toNat + 71) by first | omega | decide) (Nat.le_of_ble_eq_true rfl) (fun r657002 w657003 dc656999 ds657000 hp657001 => ?_) (fun _ qx657015 _ dc657013 ds657014 hx => by obtain ⟨P657011, F657012, rfl, rfl, hsb657004, hfr657005, hq657006, hqn657007, hwr657008, hdc657009, hds657010⟩ := hx; exact GT_outA rfl (show (16 * (o656961.toInt - p656905.toInt) + 0 : Int).toNat + dc657013 ≤ ((16 * (p656904.toInt - p656905.toInt)).toNat + 9) by omega) (show (256 * (o656961.toInt - p656905.toInt) + 0 : Int).toNat + ds657014 ≤ ((256 * (p656904.toInt - p656905.toInt)).toNat + 71) by omega) ⟨P657011, F657012, rfl, rfl, (rSub_tr hsb656982 hsb657004), (show rFr [q656902, q656901] P656899 F656900 F657012 from rFr_call hsb656982 hfr656996 hfr657005 (fun b hb hn => ⟨(nm_c (fun e => hn (e ▸ List.mem_cons_self)) (nm_c (fun e => hn (e ▸ (List.mem_cons_of_mem _ List.mem_cons_self))) nm_n)), nm_n⟩)), hq657006, (fun z => hqn657007 (hsb656982 _ z)), hwr657008, (by omega), (by omega), ⟨p656917, p656908, p656919, p656920, p656921, p656922, p656923, ((hfr657005 q656902 hm656980 nm_n).trans he656995), bp656917, (gB_w bv656985 (by decide) (by decide)), bp656921, bp656922, bp656923, x656932, x656930, x656931⟩⟩)
    obtain ⟨P657027, F657028, o657016, o657017, o657018, o657019, q657020, rfl, rfl, hsb657029, hfr657030, he657031, he657032, hdc, hds, bo657016, bo657017, bo657018, x657021, x657022, x657023, x657024, x657025, x657026⟩ := hp657001
    have hm657033 : q656901 ∈ P657027 := hsb657029 q656901 hm656979
    have hm657034 : q656902 ∈ P657027 := hsb657029 q656902 hm656980
    have hm657035 : q656903 ∈ P657027 := hsb657029 q656903 hm656981
    have hsb657036 : rSub P656899 P657027 := rSub_tr hsb656982 hsb657029
    have he657037 : F657028 q656902 = .inr (20, [.int p656917, .int p656908, .int p656919, .int p656920, .int p656921, .int p656922, .int p656923]) := (hfr657030 q656902 hm656980 (nm_c (rn_oo he656995 he656993 (by decide)) nm_n)).trans he656995
    have hfr657038 : rFr [q656902, q656901] P656899 F656900 F657028 := rFr_call hsb656982 hfr656996 hfr657030 (fun b hb hn => ⟨(nm_c (fun e => hn (e ▸ List.mem_cons_self)) (nm_c (fun e => hn (e ▸ (List.mem_cons_of_mem _ List.mem_cons_self))) nm_n)), (nm_c (fun e => hn (e ▸ (List.mem_cons_of_mem _ List.mem_cons_self))) nm_n)⟩)
    have bo657019 := gB_any o657019
    change G _ _ _ _ _ _ _ _ _ _ _
    refine G_widen (cs' := (16 * (o656961.toInt - p656905.toInt) + 0 : Int).toNat + ((16 * (o657016.toInt - o656961.toInt)).toNat)) (sl' := (256 * (o656961.toInt - p656905.toInt) + 0 : Int).toNat + ((256 * (o657016.toInt - o656961.toInt)).toNat)) (by omega) (by omega) ?_
    have x657039 : p656905.toInt ≤ o657016.toInt := by omega
    have x657040 : p656905.toInt + 1 ≤ o656961.toInt := by have q := (prQ_le x656989 x657026); omega
    have x657041 : p656905.toInt + 1 ≤ o657016.toInt := by omega
    have x657042 : prQ o657017 (p656905.toInt + 2) o657016 := prP_q x657022 x657040 (by omega)
    refine G_widen (cs' := (16 * (o657016.toInt - p656905.toInt) + 0 : Int).toNat) (sl' := (256 * (o657016.toInt - p656905.toInt) + 0 : Int).toNat) (by omega) (by omega) ?_
    clear bo656963 hm656979 hm656980 hm656981 hsb656982 he656993 he656994 he656995 hfr656996 hsb657029 hfr657030; try clear r657002; try clear w657003; try clear dc656999; try clear ds657000; try clear hp657001
    refine G_aload_n 0 dr_cX14_row_41 rfl ?_
    refine G_ldcK (a := D.2 1000 41) dr_cX14_row_42 (fun _ _ _ h => gx_vk 41 rfl rfl h) ?_
    have hl41_657042 : (sb_41.length : Int) = 2 := rfl
    refine Gw_callV (As := [.ref (D.2 1000 41)]) (gV_ok D I) (cp_655627_Reader_is l hl0 D I P657027 F657028 q656901 q656903 (D.2 1000 41) (D.2 1001 41) sb_41 p656904 o657016 o657017 o657018 o657019 o656962 q657020 p656911 p656912 p656913 qo656914 qo656915 p656916 f656924 hm657033 hm657035 he657031 he657032 (gx_sc 41 rfl rfl) (by omega) (by decide +kernel) bp656904 bo657016 bo657017 bo657018 bo656962 bp656911 bp656912 bp656913 bp656916 bf656924 x657024) dr_cX14_row_44 ⟨wr_9_141, wr_1_32, wr_9_144, by decide, rfl, (Nat.le_of_ble_eq_true rfl), (Nat.le_of_ble_eq_true rfl)⟩ wr_9_143 wr_p_84 hm657033 he657031 rfl (show (16 * (o657016.toInt - p656905.toInt) + 0 : Int).toNat + 0 ≤ ((16 * (p656904.toInt - p656905.toInt)).toNat + 9) by first | omega | decide) (show (256 * (o657016.toInt - p656905.toInt) + 0 : Int).toNat + 0 ≤ ((256 * (p656904.toInt - p656905.toInt)).toNat + 71) by first | omega | decide) (Nat.le_of_ble_eq_true rfl) (fun r657047 w657048 dc657044 ds657045 hp657046 => ?_) (fun _ _ _ _ _ z => z.elim)
    obtain ⟨o657049, rfl, rfl, hdc, hds, bo657049, x657050⟩ := hp657046
    change G _ _ _ _ _ _ _ (.int o657049 :: _) _ _ _
    refine G_widen (cs' := (16 * (o657016.toInt - p656905.toInt) + 0 : Int).toNat + 0) (sl' := (256 * (o657016.toInt - p656905.toInt) + 0 : Int).toNat + 0) (by omega) (by omega) ?_
    refine G_if_eq 61 dr_cX14_row_47 (by decide +kernel) (fun hc657051 => ?_) (fun hc657051 => ?_)
    · have r657052 : o657049.toInt = 0 := gj_eq hc657051 (show Int32.toInt 0 = 0 by decide)
      have bo657049' : gB o657049 0 0 := ⟨by omega, by omega⟩
      refine G_aload_n 0 dr_cX14_row_61 rfl ?_
      refine G_aload_n 1 dr_cX14_row_62 rfl ?_
      refine G_iconst 0 dr_cX14_row_63 (by decide +kernel) ?_
      refine Gw_callV (As := [.ref q656902, .int 0]) (gV_ok D I) (cp_655965_Reader_operand l hl0 D I P657027 F657028 q656901 q656902 q656903 0 p656904 o657016 o657017 o657018 o657019 o656962 q657020 p656911 p656912 p656913 qo656914 qo656915 p656916 p656917 p656908 p656919 p656920 p656921 p656922 p656923 f656924 hm657033 hm657034 hm657035 he657031 he657037 he657032 (gB_w (gBl (show Int32.toInt 0 = 0 by decide)) (by decide) (by decide)) bp656904 bo657016 bo657017 bo657018 bo656962 bp656911 bp656912 bp656913 bp656916 bp656917 (gB_w bv656985 (by decide) (by decide)) bp656921 bp656922 bp656923 bf656924 (by omega) (hsb657036 _ x656926) (hsb657036 _ x656927) x657024 x657025 x656930 x656931 x656932) dr_cX14_row_64 ⟨wr_10_89, wr_1_32, wr_10_92, by decide, rfl, (Nat.le_of_ble_eq_true rfl), (Nat.le_of_ble_eq_true rfl)⟩ wr_10_91 wr_p_89 hm657033 he657031 rfl (show (16 * (o657016.toInt - p656905.toInt) + 0 : Int).toNat + 0 + ((16 * (p656904.toInt - o657016.toInt)).toNat + 1) ≤ ((16 * (p656904.toInt - p656905.toInt)).toNat + 9) by first | omega | decide) (show (256 * (o657016.toInt - p656905.toInt) + 0 : Int).toNat + 0 + ((256 * (p656904.toInt - o657016.toInt)).toNat + 7) ≤ ((256 * (p656904.toInt - p656905.toInt)).toNat + 71) by first | omega | decide) (Nat.le_of_ble_eq_true rfl) (fun r657056 w657057 dc657053 ds657054 hp657055 => ?_) (fun _ qx657069 _ dc657067 ds657068 hx => by obtain ⟨P657065, F657066, rfl, rfl, hsb657058, hfr657059, hq657060, hqn657061, hwr657062, hdc657063, hds657064, x657070⟩ := hx; exact GT_outA rfl (show (16 * (o657016.toInt - p656905.toInt) + 0 : Int).toNat + 0 + dc657067 ≤ ((16 * (p656904.toInt - p656905.toInt)).toNat + 9) by omega) (show (256 * (o657016.toInt - p656905.toInt) + 0 : Int).toNat + 0 + ds657068 ≤ ((256 * (p656904.toInt - p656905.toInt)).toNat + 71) by omega) ⟨P657065, F657066, rfl, rfl, (rSub_tr hsb657036 hsb657058), (show rFr [q656902, q656901] P656899 F656900 F657066 from rFr_call hsb657036 hfr657038 hfr657059 (fun b hb hn => ⟨(nm_c (fun e => hn (e ▸ List.mem_cons_self)) (nm_c (fun e => hn (e ▸ (List.mem_cons_of_mem _ List.mem_cons_self))) nm_n)), nm_n⟩)), hq657060, (fun z => hqn657061 (hsb657036 _ z)), hwr657062, (by omega), (by omega), ⟨p656917, p656908, p656919, p656920, p656921, p656922, p656923, ((hfr657059 q656902 hm657034 nm_n).trans he657037), bp656917, (gB_w bv656985 (by decide) (by decide)), bp656921, bp656922, bp656923, x656932, x656930, x656931⟩⟩)
      obtain ⟨P657088, F657089, o657071, o657072, o657073, o657074, q657075, o657076, o657077, o657078, o657079, rfl, rfl, hsb657090, hfr657091, he657092, he657093, he657094, hdc, hds, bo657071, bo657072, bo657073, bo657078, bo657079, x657080, x657081, x657082, x657083, x657084, x657085, x657086, x657087⟩ := hp657055
      have hm657095 : q656901 ∈ P657088 := hsb657090 q656901 hm657033
      have hm657096 : q656902 ∈ P657088 := hsb657090 q656902 hm657034
      have hm657097 : q656903 ∈ P657088 := hsb657090 q656903 hm657035
      have hsb657098 : rSub P656899 P657088 := rSub_tr hsb657036 hsb657090
      have hfr657099 : rFr [q656902, q656901] P656899 F656900 F657089 := rFr_call hsb657036 hfr657038 hfr657091 (fun b hb hn => ⟨(nm_c (fun e => hn (e ▸ List.mem_cons_self)) (nm_c (fun e => hn (e ▸ (List.mem_cons_of_mem _ List.mem_cons_self))) nm_n)), (nm_c (fun e => hn (e ▸ List.mem_cons_self)) (nm_c (fun e => hn (e ▸ (List.mem_cons_of_mem _ List.mem_cons_self))) nm_n))⟩)
      have bo657074 := gB_any o657074
      have bo657076 := gB_any o657076
      have bo657077 := gB_any o657077
      change G _ _ _ _ _ _ _ _ _ _ _
      refine G_widen (cs' := (16 * (o657016.toInt - p656905.toInt) + 0 : Int).toNat + 0 + ((16 * (o657071.toInt - o657016.toInt)).toNat)) (sl' := (256 * (o657016.toInt - p656905.toInt) + 0 : Int).toNat + 0 + ((256 * (o657071.toInt - o657016.toInt)).toNat)) (by omega) (by omega) ?_
      have x657100 : p656905.toInt ≤ o657071.toInt := by omega
      have x657101 : p656905.toInt + 2 ≤ o657016.toInt := by have q := (prQ_le x657042 x657087); omega
      have x657102 : p656905.toInt + 2 ≤ o657071.toInt := by omega
      have x657103 : prQ o657072 (p656905.toInt + 3) o657071 := prP_q x657081 x657101 (by omega)
      refine G_widen (cs' := (16 * (o657071.toInt - p656905.toInt) + 0 : Int).toNat) (sl' := (256 * (o657071.toInt - p656905.toInt) + 0 : Int).toNat) (by omega) (by omega) ?_
      clear he657031 he657032 bo657018 hm657033 hm657034 hm657035 hsb657036 he657037 hfr657038 bo657049 hsb657090 hfr657091; try clear r657047; try clear w657048; try clear dc657044; try clear ds657045; try clear hp657046; try clear r657056; try clear w657057; try clear dc657053; try clear ds657054; try clear hp657055
      refine G_aload_n 1 dr_cX14_row_67 rfl ?_
      refine G_aload_n 0 dr_cX14_row_68 rfl ?_
      refine Gp_get 3 hm657095 he657093 dr_cX14_row_69 (gk_X14 D I) (Nat.le_of_ble_eq_true rfl) wr_9_39 rfl ?_
      refine G_iconst 5 dr_cX14_row_72 (by decide +kernel) ?_
      refine G_icmp_ne 86 dr_cX14_row_73 (by decide +kernel) (fun hc657104 => ?_) (fun hc657104 => ?_)
      · have r657105 : o657072.toInt ≠ 5 := gj_neq hc657104 (show Int32.toInt 5 = 5 by decide)
        refine G_widen (cs' := (16 * (o657071.toInt - p656905.toInt) + 8 : Int).toNat) (sl' := (256 * (o657071.toInt - p656905.toInt) + 64 : Int).toNat) (by omega) (by omega) ?_
        refine G_iconst 0 dr_cX14_row_86 (by decide +kernel) ?_
        refine Gp_put 0 hm657096 he657092 dr_cX14_row_87 (gk_X15 D I) (Nat.le_of_ble_eq_true rfl) wr_9_179 rfl rfl rfl (Nat.le_of_ble_eq_true rfl) (fun F657106 e657107 n657108 => ?_)
        have he657109 : F657106 q656901 = .inr (19, [.ref q656903, .int p656904, .int o657071, .int o657072, .int o657073, .int o657074, .int o657017, .ref q657075, .int p656911, .int p656912, .int p656913, .ref qo656914, .ref qo656915, .int p656916]) := (n657108 q656901 (rn_oo he657093 he657092 (by decide))).trans he657093
        have he657110 : F657106 q656903 = .inl (I .byte, 8192, .inl f656924) := (n657108 q656903 (rn_ao he657094 he657092)).trans he657094
        have he657111 : F657106 q656902 = .inr (20, [.int 0, .int p656908, .int o657076, .int o657077, .int p656921, .int o657078, .int o657079]) := e657107
        have hfr657112 : rFr [q656902, q656901] P656899 F656900 F657106 := rFr_put' List.mem_cons_self hfr657099 n657108
        have tp657113 : tP I P657088 F657106 o657072 q657075 qo656915 qo656914 := tP_put x657083 he657092 (by decide) n657108
        clear he657092 he657093 he657094 hfr657099
        refine G_aload_n 1 dr_cX14_row_90 rfl ?_
        refine Gp_get 0 hm657096 he657111 dr_cX14_row_91 (gk_X15 D I) (Nat.le_of_ble_eq_true rfl) wr_9_179 rfl ?_
        refine G_if_ne 98 dr_cX14_row_94 (by decide +kernel) (fun hc => absurd hc (by decide)) (fun _ => ?_)
        exact G_vretA dr_cX14_row_97 rfl (show (16 * (o657071.toInt - p656905.toInt) + 8 : Int).toNat ≤ ((16 * (p656904.toInt - p656905.toInt)).toNat + 9) by omega) (show (256 * (o657071.toInt - p656905.toInt) + 64 : Int).toNat ≤ ((256 * (p656904.toInt - p656905.toInt)).toNat + 71) by omega) ⟨P657088, F657106, o657071, o657072, o657073, o657074, o657017, q657075, 0, p656908, o657076, o657077, o657078, o657079, rfl, rfl, hsb657098, hfr657112, he657111, he657109, he657110, (by omega), (by omega), bo657071, bo657072, bo657073, bo657017, (gB_w (gBl (show Int32.toInt 0 = 0 by decide)) (by decide) (by decide)), (gB_w bv656985 (by decide) (by decide)), bo657078, bo657079, (by have qa0 : Int32.toInt 0 = 0 := (by decide); omega), (prP_le x657081 (by omega)), (by have qa0 : Int32.toInt 0 = 0 := (by decide); omega), tp657113, x657084, x657085, x657086, (Or.inl (by decide)), (Or.inl (by decide)), (show nzK p656906 by unfold nzK; omega), ⟨by omega, Or.inr (by omega)⟩⟩
      · have r657114 : o657072.toInt = 5 := gj_eq hc657104 (show Int32.toInt 5 = 5 by decide)
        have bo657072' : gB o657072 5 5 := ⟨by omega, by omega⟩
        refine G_aload_n 0 dr_cX14_row_76 rfl ?_
        refine Gp_get 7 hm657095 he657093 dr_cX14_row_77 (gk_X14 D I) (Nat.le_of_ble_eq_true rfl) wr_9_43 rfl ?_
        obtain ⟨q657115, n657116, f657117, p657118, p657119, hm657120, he657121, hm657122, he657123, bf657117, x657124, bp657119, hg657125, hg657126⟩ := x657083.2 (by omega)
        have bp657118 := gB_any p657118
        refine Gw_callSN (As := [.ref q657075]) (gV_ok D I) (cp_656196_SpillForgeModel_operation l hl0 D I P657088 F657089 q657075 q657115 p657118 p657119 f657117 n657116 hm657120 hm657122 he657121 he657123 bp657119 bf657117 (by have qa0 : Int32.toInt 0 = 0 := (by decide); omega) (by have qa0 : Int32.toInt 0 = 0 := (by decide); omega)) dr_cX14_row_80 ⟨(fun _ _ _ h => gn_w 81 rfl h), wr_1_14, wr_10_97, by decide, rfl, (Nat.le_of_ble_eq_true rfl), (Nat.le_of_ble_eq_true rfl)⟩ wr_10_96 (show (16 * (o657071.toInt - p656905.toInt) + 0 : Int).toNat + 8 ≤ ((16 * (p656904.toInt - p656905.toInt)).toNat + 9) by first | omega | decide) (show (256 * (o657071.toInt - p656905.toInt) + 0 : Int).toNat + 64 ≤ ((256 * (p656904.toInt - p656905.toInt)).toNat + 71) by first | omega | decide) (Nat.le_of_ble_eq_true rfl) (fun r657130 w657131 dc657127 ds657128 hp657129 => ?_)
        obtain ⟨P657135, F657136, o657132, rfl, rfl, hsb657137, hfr657138, he657139, he657140, hdc, hds, bo657132, x657133, x657134⟩ := hp657129
        have hm657141 : q656901 ∈ P657135 := hsb657137 q656901 hm657095
        have hm657142 : q656902 ∈ P657135 := hsb657137 q656902 hm657096
        have hm657143 : q656903 ∈ P657135 := hsb657137 q656903 hm657097
        have hm657144 : q657075 ∈ P657135 := hsb657137 q657075 hm657120
        have hm657145 : q657115 ∈ P657135 := hsb657137 q657115 hm657122
        have hsb657146 : rSub P656899 P657135 := rSub_tr hsb657098 hsb657137
        have he657147 : F657136 q656902 = .inr (20, [.int p656917, .int p656908, .int o657076, .int o657077, .int p656921, .int o657078, .int o657079]) := (hfr657138 q656902 hm657096 nm_n).trans he657092
        have he657148 : F657136 q656901 = .inr (19, [.ref q656903, .int p656904, .int o657071, .int o657072, .int o657073, .int o657074, .int o657017, .ref q657075, .int p656911, .int p656912, .int p656913, .ref qo656914, .ref qo656915, .int p656916]) := (hfr657138 q656901 hm657095 nm_n).trans he657093
        have he657149 : F657136 q656903 = .inl (I .byte, 8192, .inl f656924) := (hfr657138 q656903 hm657097 nm_n).trans he657094
        have hfr657150 : rFr [q656902, q656901] P656899 F656900 F657136 := rFr_call hsb657098 hfr657099 hfr657138 (fun b hb hn => ⟨(nm_c (fun e => hn (e ▸ List.mem_cons_self)) (nm_c (fun e => hn (e ▸ (List.mem_cons_of_mem _ List.mem_cons_self))) nm_n)), nm_n⟩)
        have tp657151 : tP I P657135 F657136 o657072 q657075 qo656915 qo656914 := tP_new x657083 hsb657137 (fun b hb => hfr657138 b hb (fun z => by cases z)) (Or.inl rfl) (Or.inl rfl)
        change G _ _ _ _ _ _ _ (.int o657132 :: _) _ _ _
        refine G_widen (cs' := (16 * (o657071.toInt - p656905.toInt) + 0 : Int).toNat + 8) (sl' := (256 * (o657071.toInt - p656905.toInt) + 0 : Int).toNat + 64) (by omega) (by omega) ?_
        refine G_widen (cs' := (16 * (o657071.toInt - p656905.toInt) + 8 : Int).toNat) (sl' := (256 * (o657071.toInt - p656905.toInt) + 64 : Int).toNat) (by omega) (by omega) ?_
        refine G_goto 87 dr_cX14_row_83 (by decide +kernel) ?_
        refine Gp_put 0 hm657142 he657147 dr_cX14_row_87 (gk_X15 D I) (Nat.le_of_ble_eq_true rfl) wr_9_179 rfl rfl rfl (Nat.le_of_ble_eq_true rfl) (fun F657152 e657153 n657154 => ?_)
        have he657155 : F657152 q656901 = .inr (19, [.ref q656903, .int p656904, .int o657071, .int o657072, .int o657073, .int o657074, .int o657017, .ref q657075, .int p656911, .int p656912, .int p656913, .ref qo656914, .ref qo656915, .int p656916]) := (n657154 q656901 (rn_oo he657148 he657147 (by decide))).trans he657148
        have he657156 : F657152 q656903 = .inl (I .byte, 8192, .inl f656924) := (n657154 q656903 (rn_ao he657149 he657147)).trans he657149
        have he657157 : F657152 q657075 = .inr (0, [.ref q657115, .int 0, .int p657118, .int p657119]) := (n657154 q657075 (rn_oo he657139 he657147 (by decide))).trans he657139
        have he657158 : F657152 q657115 = .inl (I .byte, n657116, .inl f657117) := (n657154 q657115 (rn_ao he657140 he657147)).trans he657140
        have he657159 : F657152 q656902 = .inr (20, [.int o657132, .int p656908, .int o657076, .int o657077, .int p656921, .int o657078, .int o657079]) := e657153
        have hfr657160 : rFr [q656902, q656901] P656899 F656900 F657152 := rFr_put' List.mem_cons_self hfr657150 n657154
        have tp657161 : tP I P657135 F657152 o657072 q657075 qo656915 qo656914 := tP_put tp657151 he657147 (by decide) n657154
        clear he657092 he657093 he657094 bo657072 hm657095 hm657096 hm657097 hsb657098 hfr657099 hm657120 he657121 hm657122 he657123 hg657125 hg657126 hsb657137 hfr657138 he657139 he657140 he657147 he657148 he657149 hfr657150; try clear r657130; try clear w657131; try clear dc657127; try clear ds657128; try clear hp657129
        refine G_aload_n 1 dr_cX14_row_90 rfl ?_
        refine Gp_get 0 hm657142 he657159 dr_cX14_row_91 (gk_X15 D I) (Nat.le_of_ble_eq_true rfl) wr_9_179 rfl ?_
        refine G_if_ne 98 dr_cX14_row_94 (by decide +kernel) (fun hc657162 => ?_) (fun hc657162 => ?_)
        · have r657163 : o657132.toInt ≠ 0 := gj_neq hc657162 (show Int32.toInt 0 = 0 by decide)
          have bo657132' : gB o657132 1 14 := ⟨by omega, by omega⟩
          refine G_aload_n 0 dr_cX14_row_98 rfl ?_
          refine Gw_callV (As := []) (gV_ok D I) (cp_653750_Reader_next l hl0 D I P657135 F657152 q656901 q656903 p656904 o657071 o657072 o657073 o657074 o657017 q657075 p656911 p656912 p656913 qo656914 qo656915 p656916 f656924 hm657141 hm657143 he657155 he657156 bp656904 bo657071 (gB_w bo657072' (by decide) (by decide)) bo657073 bo657017 bp656911 bp656912 bp656913 bp656916 bf656924 (by have qa0 : Int32.toInt 0 = 0 := (by decide); omega) (hsb657146 _ x656926) (hsb657146 _ x656927)) dr_cX14_row_99 ⟨wr_7_215, wr_1_32, wr_7_218, by decide, rfl, (Nat.le_of_ble_eq_true rfl), (Nat.le_of_ble_eq_true rfl)⟩ wr_7_217 wr_p_75 hm657141 he657155 rfl (show (16 * (o657071.toInt - p656905.toInt) + 8 : Int).toNat + ((16 * (p656904.toInt - o657071.toInt)).toNat) ≤ ((16 * (p656904.toInt - p656905.toInt)).toNat + 9) by first | omega | decide) (show (256 * (o657071.toInt - p656905.toInt) + 64 : Int).toNat + ((256 * (p656904.toInt - o657071.toInt)).toNat) ≤ ((256 * (p656904.toInt - p656905.toInt)).toNat + 71) by first | omega | decide) (Nat.le_of_ble_eq_true rfl) (fun r657167 w657168 dc657164 ds657165 hp657166 => ?_) (fun _ _ _ _ _ z => z.elim)
          obtain ⟨P657179, F657180, o657169, o657170, o657171, o657172, q657173, rfl, rfl, hsb657181, hfr657182, he657183, he657184, hdc, hds, bo657169, bo657170, bo657171, x657174, x657175, x657176, x657177, x657178⟩ := hp657166
          have hm657185 : q656901 ∈ P657179 := hsb657181 q656901 hm657141
          have hm657186 : q656902 ∈ P657179 := hsb657181 q656902 hm657142
          have hm657187 : q656903 ∈ P657179 := hsb657181 q656903 hm657143
          have hm657188 : q657075 ∈ P657179 := hsb657181 q657075 hm657144
          have hm657189 : q657115 ∈ P657179 := hsb657181 q657115 hm657145
          have hsb657190 : rSub P656899 P657179 := rSub_tr hsb657146 hsb657181
          have he657191 : F657180 q656902 = .inr (20, [.int o657132, .int p656908, .int o657076, .int o657077, .int p656921, .int o657078, .int o657079]) := (hfr657182 q656902 hm657142 (nm_c (rn_oo he657159 he657155 (by decide)) nm_n)).trans he657159
          have he657192 : F657180 q657075 = .inr (0, [.ref q657115, .int 0, .int p657118, .int p657119]) := (hfr657182 q657075 hm657144 (nm_c (rn_oo he657157 he657155 (by decide)) nm_n)).trans he657157
          have he657193 : F657180 q657115 = .inl (I .byte, n657116, .inl f657117) := (hfr657182 q657115 hm657145 (nm_c (rn_ao he657158 he657155) nm_n)).trans he657158
          have hfr657194 : rFr [q656902, q656901] P656899 F656900 F657180 := rFr_call hsb657146 hfr657160 hfr657182 (fun b hb hn => ⟨(nm_c (fun e => hn (e ▸ List.mem_cons_self)) (nm_c (fun e => hn (e ▸ (List.mem_cons_of_mem _ List.mem_cons_self))) nm_n)), (nm_c (fun e => hn (e ▸ (List.mem_cons_of_mem _ List.mem_cons_self))) nm_n)⟩)
          have bo657172 := gB_any o657172
          change G _ _ _ _ _ _ _ _ _ _ _
          refine G_widen (cs' := (16 * (o657071.toInt - p656905.toInt) + 8 : Int).toNat + ((16 * (o657169.toInt - o657071.toInt)).toNat)) (sl' := (256 * (o657071.toInt - p656905.toInt) + 64 : Int).toNat + ((256 * (o657169.toInt - o657071.toInt)).toNat)) (by omega) (by omega) ?_
          have x657195 : p656905.toInt ≤ o657169.toInt := by omega
          have x657196 : p656905.toInt + 2 ≤ o657071.toInt := by have q := (prQ_le x657103 (show nzK o657072 by unfold nzK; omega)); omega
          have x657197 : p656905.toInt + 2 ≤ o657169.toInt := by omega
          have x657198 : prQ o657170 (p656905.toInt + 3) o657169 := prP_q x657175 x657196 (by omega)
          refine G_widen (cs' := (16 * (o657169.toInt - p656905.toInt) + 8 : Int).toNat) (sl' := (256 * (o657169.toInt - p656905.toInt) + 64 : Int).toNat) (by omega) (by omega) ?_
          clear bo656961 bo657073 bf657117 bp657119 bp657118 bo657132 hm657141 hm657142 hm657143 hm657144 hm657145 hsb657146 he657155 he657156 he657157 he657158 he657159 hfr657160 hsb657181 hfr657182 hm657188 hm657189 he657192 he657193; try clear x656966; try clear x656967; try clear x656968; try clear x656986; try clear x656988; try clear x656989; try clear x657021; try clear x657022; try clear x657040; try clear x657124; try clear r657167; try clear w657168; try clear dc657164; try clear ds657165; try clear hp657166
          refine G_aload_n 0 dr_cX14_row_102 rfl ?_
          refine G_aload_n 1 dr_cX14_row_103 rfl ?_
          refine G_iconst 1 dr_cX14_row_104 (by decide +kernel) ?_
          refine Gw_callV (As := [.ref q656902, .int 1]) (gV_ok D I) (cp_655965_Reader_operand l hl0 D I P657179 F657180 q656901 q656902 q656903 1 p656904 o657169 o657170 o657171 o657172 o657072 q657173 p656911 p656912 p656913 qo656914 qo656915 p656916 o657132 p656908 o657076 o657077 p656921 o657078 o657079 f656924 hm657185 hm657186 hm657187 he657183 he657191 he657184 (gB_w (gBl (show Int32.toInt 1 = 1 by decide)) (by decide) (by decide)) bp656904 bo657169 bo657170 bo657171 (gB_w bo657072' (by decide) (by decide)) bp656911 bp656912 bp656913 bp656916 (gB_w bo657132' (by decide) (by decide)) (gB_w bv656985 (by decide) (by decide)) bp656921 bo657078 bo657079 bf656924 (by omega) (hsb657190 _ x656926) (hsb657190 _ x656927) x657177 x657178 x657085 x657086 (opP_of (gB_w bo657132' (by decide) (by decide)))) dr_cX14_row_105 ⟨wr_10_89, wr_1_32, wr_10_92, by decide, rfl, (Nat.le_of_ble_eq_true rfl), (Nat.le_of_ble_eq_true rfl)⟩ wr_10_91 wr_p_89 hm657185 he657183 rfl (show (16 * (o657169.toInt - p656905.toInt) + 8 : Int).toNat + ((16 * (p656904.toInt - o657169.toInt)).toNat + 1) ≤ ((16 * (p656904.toInt - p656905.toInt)).toNat + 9) by first | omega | decide) (show (256 * (o657169.toInt - p656905.toInt) + 64 : Int).toNat + ((256 * (p656904.toInt - o657169.toInt)).toNat + 7) ≤ ((256 * (p656904.toInt - p656905.toInt)).toNat + 71) by first | omega | decide) (Nat.le_of_ble_eq_true rfl) (fun r657202 w657203 dc657199 ds657200 hp657201 => ?_) (fun _ qx657215 _ dc657213 ds657214 hx => by obtain ⟨P657211, F657212, rfl, rfl, hsb657204, hfr657205, hq657206, hqn657207, hwr657208, hdc657209, hds657210, x657216⟩ := hx; exact GT_outA rfl (show (16 * (o657169.toInt - p656905.toInt) + 8 : Int).toNat + dc657213 ≤ ((16 * (p656904.toInt - p656905.toInt)).toNat + 9) by omega) (show (256 * (o657169.toInt - p656905.toInt) + 64 : Int).toNat + ds657214 ≤ ((256 * (p656904.toInt - p656905.toInt)).toNat + 71) by omega) ⟨P657211, F657212, rfl, rfl, (rSub_tr hsb657190 hsb657204), (show rFr [q656902, q656901] P656899 F656900 F657212 from rFr_call hsb657190 hfr657194 hfr657205 (fun b hb hn => ⟨(nm_c (fun e => hn (e ▸ List.mem_cons_self)) (nm_c (fun e => hn (e ▸ (List.mem_cons_of_mem _ List.mem_cons_self))) nm_n)), nm_n⟩)), hq657206, (fun z => hqn657207 (hsb657190 _ z)), hwr657208, (by omega), (by omega), ⟨o657132, p656908, o657076, o657077, p656921, o657078, o657079, ((hfr657205 q656902 hm657186 nm_n).trans he657191), (gB_w bo657132' (by decide) (by decide)), (gB_w bv656985 (by decide) (by decide)), bp656921, bo657078, bo657079, (opP_of (gB_w bo657132' (by decide) (by decide))), x657085, x657086⟩⟩)
          obtain ⟨P657234, F657235, o657217, o657218, o657219, o657220, q657221, o657222, o657223, o657224, o657225, rfl, rfl, hsb657236, hfr657237, he657238, he657239, he657240, hdc, hds, bo657217, bo657218, bo657219, bo657224, bo657225, x657226, x657227, x657228, x657229, x657230, x657231, x657232, x657233⟩ := hp657201
          have hm657241 : q656901 ∈ P657234 := hsb657236 q656901 hm657185
          have hm657242 : q656902 ∈ P657234 := hsb657236 q656902 hm657186
          have hm657243 : q656903 ∈ P657234 := hsb657236 q656903 hm657187
          have hsb657244 : rSub P656899 P657234 := rSub_tr hsb657190 hsb657236
          have hfr657245 : rFr [q656902, q656901] P656899 F656900 F657235 := rFr_call hsb657190 hfr657194 hfr657237 (fun b hb hn => ⟨(nm_c (fun e => hn (e ▸ List.mem_cons_self)) (nm_c (fun e => hn (e ▸ (List.mem_cons_of_mem _ List.mem_cons_self))) nm_n)), (nm_c (fun e => hn (e ▸ List.mem_cons_self)) (nm_c (fun e => hn (e ▸ (List.mem_cons_of_mem _ List.mem_cons_self))) nm_n))⟩)
          have bo657220 := gB_any o657220
          have bo657222 := gB_any o657222
          have bo657223 := gB_any o657223
          change G _ _ _ _ _ _ _ _ _ _ _
          refine G_widen (cs' := (16 * (o657169.toInt - p656905.toInt) + 8 : Int).toNat + ((16 * (o657217.toInt - o657169.toInt)).toNat)) (sl' := (256 * (o657169.toInt - p656905.toInt) + 64 : Int).toNat + ((256 * (o657217.toInt - o657169.toInt)).toNat)) (by omega) (by omega) ?_
          have x657246 : p656905.toInt + 2 ≤ o657169.toInt := by have q := (prQ_le x657198 x657233); omega
          have x657247 : p656905.toInt + 2 ≤ o657217.toInt := by omega
          have x657248 : prQ o657218 (p656905.toInt + 3) o657217 := prP_q x657227 x657246 (by omega)
          exact G_vretA dr_cX14_row_108 rfl (show (16 * (o657169.toInt - p656905.toInt) + 8 : Int).toNat + ((16 * (o657217.toInt - o657169.toInt)).toNat) ≤ ((16 * (p656904.toInt - p656905.toInt)).toNat + 9) by omega) (show (256 * (o657169.toInt - p656905.toInt) + 64 : Int).toNat + ((256 * (o657217.toInt - o657169.toInt)).toNat) ≤ ((256 * (p656904.toInt - p656905.toInt)).toNat + 71) by omega) ⟨P657234, F657235, o657217, o657218, o657219, o657220, o657170, q657221, o657132, p656908, o657222, o657223, o657224, o657225, rfl, rfl, hsb657244, hfr657245, he657238, he657239, he657240, (by omega), (by omega), bo657217, bo657218, bo657219, bo657170, (gB_w bo657132' (by decide) (by decide)), (gB_w bv656985 (by decide) (by decide)), bo657224, bo657225, (by omega), (prP_le x657227 (by omega)), (by omega), x657229, x657230, x657231, x657232, (opP_of (gB_w bo657132' (by decide) (by decide))), (Or.inl (by omega)), (show nzK p656906 by unfold nzK; omega), ⟨by omega, Or.inr (by omega)⟩⟩
        · have r657249 : o657132.toInt = 0 := gj_eq hc657162 (show Int32.toInt 0 = 0 by decide)
          have bo657132' : gB o657132 0 0 := ⟨by omega, by omega⟩
          exact G_vretA dr_cX14_row_97 rfl (show (16 * (o657071.toInt - p656905.toInt) + 8 : Int).toNat ≤ ((16 * (p656904.toInt - p656905.toInt)).toNat + 9) by omega) (show (256 * (o657071.toInt - p656905.toInt) + 64 : Int).toNat ≤ ((256 * (p656904.toInt - p656905.toInt)).toNat + 71) by omega) ⟨P657135, F657152, o657071, o657072, o657073, o657074, o657017, q657075, o657132, p656908, o657076, o657077, o657078, o657079, rfl, rfl, hsb657146, hfr657160, he657159, he657155, he657156, (by omega), (by omega), bo657071, (gB_w bo657072' (by decide) (by decide)), bo657073, bo657017, (gB_w bo657132' (by decide) (by decide)), (gB_w bv656985 (by decide) (by decide)), bo657078, bo657079, (by have qa0 : Int32.toInt 0 = 0 := (by decide); omega), (prP_le x657081 (by omega)), (by have qa0 : Int32.toInt 0 = 0 := (by decide); omega), tp657161, x657084, x657085, x657086, (opP_of (gB_w bo657132' (by decide) (by decide))), (Or.inl (by omega)), (show nzK p656906 by unfold nzK; omega), ⟨by omega, Or.inr (by omega)⟩⟩
    · have r657250 : o657049.toInt ≠ 0 := gj_neq hc657051 (show Int32.toInt 0 = 0 by decide)
      have bo657049' : gB o657049 1 1 := ⟨by omega, by omega⟩
      refine G_aload_n 0 dr_cX14_row_50 rfl ?_
      refine Gw_callV (As := []) (gV_ok D I) (cp_653750_Reader_next l hl0 D I P657027 F657028 q656901 q656903 p656904 o657016 o657017 o657018 o657019 o656962 q657020 p656911 p656912 p656913 qo656914 qo656915 p656916 f656924 hm657033 hm657035 he657031 he657032 bp656904 bo657016 bo657017 bo657018 bo656962 bp656911 bp656912 bp656913 bp656916 bf656924 (by omega) (hsb657036 _ x656926) (hsb657036 _ x656927)) dr_cX14_row_51 ⟨wr_7_215, wr_1_32, wr_7_218, by decide, rfl, (Nat.le_of_ble_eq_true rfl), (Nat.le_of_ble_eq_true rfl)⟩ wr_7_217 wr_p_75 hm657033 he657031 rfl (show (16 * (o657016.toInt - p656905.toInt) + 0 : Int).toNat + 0 + ((16 * (p656904.toInt - o657016.toInt)).toNat) ≤ ((16 * (p656904.toInt - p656905.toInt)).toNat + 9) by first | omega | decide) (show (256 * (o657016.toInt - p656905.toInt) + 0 : Int).toNat + 0 + ((256 * (p656904.toInt - o657016.toInt)).toNat) ≤ ((256 * (p656904.toInt - p656905.toInt)).toNat + 71) by first | omega | decide) (Nat.le_of_ble_eq_true rfl) (fun r657254 w657255 dc657251 ds657252 hp657253 => ?_) (fun _ _ _ _ _ z => z.elim)
      obtain ⟨P657266, F657267, o657256, o657257, o657258, o657259, q657260, rfl, rfl, hsb657268, hfr657269, he657270, he657271, hdc, hds, bo657256, bo657257, bo657258, x657261, x657262, x657263, x657264, x657265⟩ := hp657253
      have hm657272 : q656901 ∈ P657266 := hsb657268 q656901 hm657033
      have hm657273 : q656902 ∈ P657266 := hsb657268 q656902 hm657034
      have hm657274 : q656903 ∈ P657266 := hsb657268 q656903 hm657035
      have hsb657275 : rSub P656899 P657266 := rSub_tr hsb657036 hsb657268
      have he657276 : F657267 q656902 = .inr (20, [.int p656917, .int p656908, .int p656919, .int p656920, .int p656921, .int p656922, .int p656923]) := (hfr657269 q656902 hm657034 (nm_c (rn_oo he657037 he657031 (by decide)) nm_n)).trans he657037
      have hfr657277 : rFr [q656902, q656901] P656899 F656900 F657267 := rFr_call hsb657036 hfr657038 hfr657269 (fun b hb hn => ⟨(nm_c (fun e => hn (e ▸ List.mem_cons_self)) (nm_c (fun e => hn (e ▸ (List.mem_cons_of_mem _ List.mem_cons_self))) nm_n)), (nm_c (fun e => hn (e ▸ (List.mem_cons_of_mem _ List.mem_cons_self))) nm_n)⟩)
      have bo657259 := gB_any o657259
      change G _ _ _ _ _ _ _ _ _ _ _
      refine G_widen (cs' := (16 * (o657016.toInt - p656905.toInt) + 0 : Int).toNat + 0 + ((16 * (o657256.toInt - o657016.toInt)).toNat)) (sl' := (256 * (o657016.toInt - p656905.toInt) + 0 : Int).toNat + 0 + ((256 * (o657256.toInt - o657016.toInt)).toNat)) (by omega) (by omega) ?_
      have x657278 : p656905.toInt ≤ o657256.toInt := by omega
      have x657279 : p656905.toInt + 2 ≤ o657016.toInt := by have q := (prQ_le x657042 (isK_1 x657050 (by omega))); omega
      have x657280 : p656905.toInt + 2 ≤ o657256.toInt := by omega
      have x657281 : prQ o657257 (p656905.toInt + 3) o657256 := prP_q x657262 x657279 (by omega)
      refine G_widen (cs' := (16 * (o657256.toInt - p656905.toInt) + 0 : Int).toNat) (sl' := (256 * (o657256.toInt - p656905.toInt) + 0 : Int).toNat) (by omega) (by omega) ?_
      clear he657031 he657032 bo657018 hm657033 hm657034 hm657035 hsb657036 he657037 hfr657038 bo657049 hsb657268 hfr657269; try clear r657047; try clear w657048; try clear dc657044; try clear ds657045; try clear hp657046; try clear r657254; try clear w657255; try clear dc657251; try clear ds657252; try clear hp657253
      refine G_aload_n 1 dr_cX14_row_54 rfl ?_
      refine G_bipush 20 dr_cX14_row_55 (by decide +kernel) ?_
      refine Gp_put 0 hm657273 he657276 dr_cX14_row_57 (gk_X15 D I) (Nat.le_of_ble_eq_true rfl) wr_9_179 rfl rfl rfl (Nat.le_of_ble_eq_true rfl) (fun F657282 e657283 n657284 => ?_)
      have he657285 : F657282 q656901 = .inr (19, [.ref q656903, .int p656904, .int o657256, .int o657257, .int o657258, .int o657259, .int o657017, .ref q657260, .int p656911, .int p656912, .int p656913, .ref qo656914, .ref qo656915, .int p656916]) := (n657284 q656901 (rn_oo he657270 he657276 (by decide))).trans he657270
      have he657286 : F657282 q656903 = .inl (I .byte, 8192, .inl f656924) := (n657284 q656903 (rn_ao he657271 he657276)).trans he657271
      have he657287 : F657282 q656902 = .inr (20, [.int 20, .int p656908, .int p656919, .int p656920, .int p656921, .int p656922, .int p656923]) := e657283
      have hfr657288 : rFr [q656902, q656901] P656899 F656900 F657282 := rFr_put' List.mem_cons_self hfr657277 n657284
      have tp657289 : tP I P657266 F657282 o657257 q657260 qo656915 qo656914 := tP_put x657264 he657276 (by decide) n657284
      exact G_vretA dr_cX14_row_60 rfl (show (16 * (o657256.toInt - p656905.toInt) + 0 : Int).toNat ≤ ((16 * (p656904.toInt - p656905.toInt)).toNat + 9) by omega) (show (256 * (o657256.toInt - p656905.toInt) + 0 : Int).toNat ≤ ((256 * (p656904.toInt - p656905.toInt)).toNat + 71) by omega) ⟨P657266, F657282, o657256, o657257, o657258, o657259, o657017, q657260, 20, p656908, p656919, p656920, p656922, p656923, rfl, rfl, hsb657275, hfr657288, he657287, he657285, he657286, (by omega), (by omega), bo657256, bo657257, bo657258, bo657017, (gB_w (gBl (show Int32.toInt 20 = 20 by decide)) (by decide) (by decide)), (gB_w bv656985 (by decide) (by decide)), bp656922, bp656923, (by have qa0 : Int32.toInt 20 = 20 := (by decide); omega), (prP_le x657262 (by omega)), (by have qa0 : Int32.toInt 20 = 20 := (by decide); omega), tp657289, x657265, x656930, x656931, (Or.inr (by decide)), (Or.inr (Or.inl (by decide))), (show nzK p656906 by unfold nzK; omega), ⟨by omega, Or.inr (by omega)⟩⟩
  · have r657290 : o656940.toInt ≠ 0 := gj_neq hc656942 (show Int32.toInt 0 = 0 by decide)
    have bo656940' : gB o656940 1 1 := ⟨by omega, by omega⟩
    refine G_aload_n 0 dr_cX14_row_9 rfl ?_
    refine Gw_callV (As := []) (gV_ok D I) (cp_653750_Reader_next l hl0 D I P656899 F656900 q656901 q656903 p656904 p656905 p656906 p656907 p656908 p656909 qo656910 p656911 p656912 p656913 qo656914 qo656915 p656916 f656924 hmq656901 hmq656903 heq656901 heq656903 bp656904 bp656905 bp656906 bp656907 bp656909 bp656911 bp656912 bp656913 bp656916 bf656924 (by omega) x656926 x656927) dr_cX14_row_10 ⟨wr_7_215, wr_1_32, wr_7_218, by decide, rfl, (Nat.le_of_ble_eq_true rfl), (Nat.le_of_ble_eq_true rfl)⟩ wr_7_217 wr_p_75 hmq656901 heq656901 rfl (show 0 + ((16 * (p656904.toInt - p656905.toInt)).toNat) ≤ ((16 * (p656904.toInt - p656905.toInt)).toNat + 9) by first | omega | decide) (show 0 + ((256 * (p656904.toInt - p656905.toInt)).toNat) ≤ ((256 * (p656904.toInt - p656905.toInt)).toNat + 71) by first | omega | decide) (Nat.le_of_ble_eq_true rfl) (fun r657294 w657295 dc657291 ds657292 hp657293 => ?_) (fun _ _ _ _ _ z => z.elim)
    obtain ⟨P657306, F657307, o657296, o657297, o657298, o657299, q657300, rfl, rfl, hsb657308, hfr657309, he657310, he657311, hdc, hds, bo657296, bo657297, bo657298, x657301, x657302, x657303, x657304, x657305⟩ := hp657293
    have hm657312 : q656901 ∈ P657306 := hsb657308 q656901 hmq656901
    have hm657313 : q656902 ∈ P657306 := hsb657308 q656902 hmq656902
    have hm657314 : q656903 ∈ P657306 := hsb657308 q656903 hmq656903
    have hsb657315 : rSub P656899 P657306 := rSub_tr (rSub_rf (P := P656899)) hsb657308
    have he657316 : F657307 q656902 = .inr (20, [.int p656917, .int p656918, .int p656919, .int p656920, .int p656921, .int p656922, .int p656923]) := (hfr657309 q656902 hmq656902 (nm_c (rn_oo heq656902 heq656901 (by decide)) nm_n)).trans heq656902
    have hfr657317 : rFr [q656901] P656899 F656900 F657307 := rFr_call (rSub_rf (P := P656899)) (rFr_rf (W := []) (P := P656899) (F := F656900)) hfr657309 (fun b hb hn => ⟨nm_n, (nm_c (fun e => hn (e ▸ List.mem_cons_self)) nm_n)⟩)
    have bo657299 := gB_any o657299
    change G _ _ _ _ _ _ _ _ _ _ _
    refine G_widen (cs' := (16 * (o657296.toInt - p656905.toInt)).toNat) (sl' := (256 * (o657296.toInt - p656905.toInt)).toNat) (by omega) (by omega) ?_
    have x657318 : p656905.toInt ≤ o657296.toInt := by omega
    have x657319 : p656905.toInt + 0 ≤ p656905.toInt := by omega
    have x657320 : p656905.toInt + 0 ≤ o657296.toInt := by omega
    have x657321 : prQ o657297 (p656905.toInt + 1) o657296 := prP_q x657302 x657319 (by omega)
    refine G_widen (cs' := (16 * (o657296.toInt - p656905.toInt) + 0 : Int).toNat) (sl' := (256 * (o657296.toInt - p656905.toInt) + 0 : Int).toNat) (by omega) (by omega) ?_
    clear bo656940 hsb657308 hfr657309; try clear r656938; try clear w656939; try clear dc656935; try clear ds656936; try clear hp656937; try clear r657294; try clear w657295; try clear dc657291; try clear ds657292; try clear hp657293
    refine G_aload_n 1 dr_cX14_row_13 rfl ?_
    refine G_bipush 22 dr_cX14_row_14 (by decide +kernel) ?_
    refine Gp_put 0 hm657313 he657316 dr_cX14_row_16 (gk_X15 D I) (Nat.le_of_ble_eq_true rfl) wr_9_179 rfl rfl rfl (Nat.le_of_ble_eq_true rfl) (fun F657322 e657323 n657324 => ?_)
    have he657325 : F657322 q656901 = .inr (19, [.ref q656903, .int p656904, .int o657296, .int o657297, .int o657298, .int o657299, .int p656906, .ref q657300, .int p656911, .int p656912, .int p656913, .ref qo656914, .ref qo656915, .int p656916]) := (n657324 q656901 (rn_oo he657310 he657316 (by decide))).trans he657310
    have he657326 : F657322 q656903 = .inl (I .byte, 8192, .inl f656924) := (n657324 q656903 (rn_ao he657311 he657316)).trans he657311
    have he657327 : F657322 q656902 = .inr (20, [.int 22, .int p656918, .int p656919, .int p656920, .int p656921, .int p656922, .int p656923]) := e657323
    have hfr657328 : rFr [q656902, q656901] P656899 F656900 F657322 := rFr_put hfr657317 n657324
    have tp657329 : tP I P657306 F657322 o657297 q657300 qo656915 qo656914 := tP_put x657304 he657316 (by decide) n657324
    refine G_aload_n 0 dr_cX14_row_19 rfl ?_
    refine G_aload_n 1 dr_cX14_row_20 rfl ?_
    refine G_iconst 0 dr_cX14_row_21 (by decide +kernel) ?_
    refine Gw_callV (As := [.ref q656902, .int 0]) (gV_ok D I) (cp_655965_Reader_operand l hl0 D I P657306 F657322 q656901 q656902 q656903 0 p656904 o657296 o657297 o657298 o657299 p656906 q657300 p656911 p656912 p656913 qo656914 qo656915 p656916 22 p656918 p656919 p656920 p656921 p656922 p656923 f656924 hm657312 hm657313 hm657314 he657325 he657327 he657326 (gB_w (gBl (show Int32.toInt 0 = 0 by decide)) (by decide) (by decide)) bp656904 bo657296 bo657297 bo657298 bp656906 bp656911 bp656912 bp656913 bp656916 (gB_w (gBl (show Int32.toInt 22 = 22 by decide)) (by decide) (by decide)) bp656918 bp656921 bp656922 bp656923 bf656924 (by have qa0 : Int32.toInt 22 = 22 := (by decide); omega) (hsb657315 _ x656926) (hsb657315 _ x656927) tp657329 x657305 x656930 x656931 (Or.inr (by decide))) dr_cX14_row_22 ⟨wr_10_89, wr_1_32, wr_10_92, by decide, rfl, (Nat.le_of_ble_eq_true rfl), (Nat.le_of_ble_eq_true rfl)⟩ wr_10_91 wr_p_89 hm657312 he657325 rfl (show (16 * (o657296.toInt - p656905.toInt) + 0 : Int).toNat + ((16 * (p656904.toInt - o657296.toInt)).toNat + 1) ≤ ((16 * (p656904.toInt - p656905.toInt)).toNat + 9) by first | omega | decide) (show (256 * (o657296.toInt - p656905.toInt) + 0 : Int).toNat + ((256 * (p656904.toInt - o657296.toInt)).toNat + 7) ≤ ((256 * (p656904.toInt - p656905.toInt)).toNat + 71) by first | omega | decide) (Nat.le_of_ble_eq_true rfl) (fun r657333 w657334 dc657330 ds657331 hp657332 => ?_) (fun _ qx657346 _ dc657344 ds657345 hx => by obtain ⟨P657342, F657343, rfl, rfl, hsb657335, hfr657336, hq657337, hqn657338, hwr657339, hdc657340, hds657341, x657347⟩ := hx; exact GT_outA rfl (show (16 * (o657296.toInt - p656905.toInt) + 0 : Int).toNat + dc657344 ≤ ((16 * (p656904.toInt - p656905.toInt)).toNat + 9) by omega) (show (256 * (o657296.toInt - p656905.toInt) + 0 : Int).toNat + ds657345 ≤ ((256 * (p656904.toInt - p656905.toInt)).toNat + 71) by omega) ⟨P657342, F657343, rfl, rfl, (rSub_tr hsb657315 hsb657335), (show rFr [q656902, q656901] P656899 F656900 F657343 from rFr_call hsb657315 hfr657328 hfr657336 (fun b hb hn => ⟨(nm_c (fun e => hn (e ▸ List.mem_cons_self)) (nm_c (fun e => hn (e ▸ (List.mem_cons_of_mem _ List.mem_cons_self))) nm_n)), nm_n⟩)), hq657337, (fun z => hqn657338 (hsb657315 _ z)), hwr657339, (by omega), (by omega), ⟨22, p656918, p656919, p656920, p656921, p656922, p656923, ((hfr657336 q656902 hm657313 nm_n).trans he657327), (gB_w (gBl (show Int32.toInt 22 = 22 by decide)) (by decide) (by decide)), bp656918, bp656921, bp656922, bp656923, (Or.inr (by decide)), x656930, x656931⟩⟩)
    obtain ⟨P657365, F657366, o657348, o657349, o657350, o657351, q657352, o657353, o657354, o657355, o657356, rfl, rfl, hsb657367, hfr657368, he657369, he657370, he657371, hdc, hds, bo657348, bo657349, bo657350, bo657355, bo657356, x657357, x657358, x657359, x657360, x657361, x657362, x657363, x657364⟩ := hp657332
    have hm657372 : q656901 ∈ P657365 := hsb657367 q656901 hm657312
    have hm657373 : q656902 ∈ P657365 := hsb657367 q656902 hm657313
    have hm657374 : q656903 ∈ P657365 := hsb657367 q656903 hm657314
    have hsb657375 : rSub P656899 P657365 := rSub_tr hsb657315 hsb657367
    have hfr657376 : rFr [q656902, q656901] P656899 F656900 F657366 := rFr_call hsb657315 hfr657328 hfr657368 (fun b hb hn => ⟨(nm_c (fun e => hn (e ▸ List.mem_cons_self)) (nm_c (fun e => hn (e ▸ (List.mem_cons_of_mem _ List.mem_cons_self))) nm_n)), (nm_c (fun e => hn (e ▸ List.mem_cons_self)) (nm_c (fun e => hn (e ▸ (List.mem_cons_of_mem _ List.mem_cons_self))) nm_n))⟩)
    have bo657351 := gB_any o657351
    have bo657353 := gB_any o657353
    have bo657354 := gB_any o657354
    change G _ _ _ _ _ _ _ _ _ _ _
    refine G_widen (cs' := (16 * (o657296.toInt - p656905.toInt) + 0 : Int).toNat + ((16 * (o657348.toInt - o657296.toInt)).toNat)) (sl' := (256 * (o657296.toInt - p656905.toInt) + 0 : Int).toNat + ((256 * (o657348.toInt - o657296.toInt)).toNat)) (by omega) (by omega) ?_
    have x657377 : p656905.toInt + 1 ≤ o657296.toInt := by have q := (prQ_le x657321 x657364); omega
    have x657378 : p656905.toInt + 1 ≤ o657348.toInt := by omega
    have x657379 : prQ o657349 (p656905.toInt + 2) o657348 := prP_q x657358 x657377 (by omega)
    exact G_vretA dr_cX14_row_25 rfl (show (16 * (o657296.toInt - p656905.toInt) + 0 : Int).toNat + ((16 * (o657348.toInt - o657296.toInt)).toNat) ≤ ((16 * (p656904.toInt - p656905.toInt)).toNat + 9) by omega) (show (256 * (o657296.toInt - p656905.toInt) + 0 : Int).toNat + ((256 * (o657348.toInt - o657296.toInt)).toNat) ≤ ((256 * (p656904.toInt - p656905.toInt)).toNat + 71) by omega) ⟨P657365, F657366, o657348, o657349, o657350, o657351, o657297, q657352, 22, p656918, o657353, o657354, o657355, o657356, rfl, rfl, hsb657375, hfr657376, he657369, he657370, he657371, (by omega), (by omega), bo657348, bo657349, bo657350, bo657297, (gB_w (gBl (show Int32.toInt 22 = 22 by decide)) (by decide) (by decide)), bp656918, bo657355, bo657356, (by have qa0 : Int32.toInt 22 = 22 := (by decide); omega), (prP_le x657358 (by omega)), (by have qa0 : Int32.toInt 22 = 22 := (by decide); omega), x657360, x657361, x657362, x657363, (Or.inr (by decide)), (Or.inr (Or.inr (by decide))), (isK_1 x656941 (by omega)), ⟨by omega, x657379⟩⟩
