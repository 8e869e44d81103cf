theorem dr_cJ7_copyOf_59c91_0 : decode cJ7_copyOf_59c91 0 = .ok (.iload_n 1, 1) := by decide +kernel
theorem dr_cJ7_copyOf_59c91_1 : decode cJ7_copyOf_59c91 1 = .ok (.aload_n 0, 1) := by decide +kernel
theorem dr_cJ7_copyOf_59c91_2 : decode cJ7_copyOf_59c91 2 = .ok (.arraylength, 1) := by decide +kernel
theorem dr_cJ7_copyOf_59c91_3 : decode cJ7_copyOf_59c91 3 = .ok (.if_icmp .ne 11, 3) := by decide +kernel
theorem dr_cJ7_copyOf_59c91_14 : decode cJ7_copyOf_59c91 14 = .ok (.iload_n 1, 1) := by decide +kernel
theorem dr_cJ7_copyOf_59c91_15 : decode cJ7_copyOf_59c91 15 = .ok (.newarray .int, 2) := by decide +kernel
theorem wr_1_95 : (Jvm.Cond.arrayClass Jvm.ClassFile.FieldType.int) ∈ gw := gw_1 95 rfl rfl
theorem dr_cJ7_copyOf_59c91_17 : decode cJ7_copyOf_59c91 17 = .ok (.astore_n 2, 1) := by decide +kernel
theorem dr_cJ7_copyOf_59c91_18 : decode cJ7_copyOf_59c91 18 = .ok (.aload_n 0, 1) := by decide +kernel
theorem dr_cJ7_copyOf_59c91_19 : decode cJ7_copyOf_59c91 19 = .ok (.iconst 0, 1) := by decide +kernel
theorem dr_cJ7_copyOf_59c91_20 : decode cJ7_copyOf_59c91 20 = .ok (.aload_n 2, 1) := by decide +kernel
theorem dr_cJ7_copyOf_59c91_21 : decode cJ7_copyOf_59c91 21 = .ok (.iconst 0, 1) := by decide +kernel
theorem dr_cJ7_copyOf_59c91_22 : decode cJ7_copyOf_59c91 22 = .ok (.aload_n 0, 1) := by decide +kernel
theorem dr_cJ7_copyOf_59c91_23 : decode cJ7_copyOf_59c91 23 = .ok (.arraylength, 1) := by decide +kernel
theorem dr_cJ7_copyOf_59c91_24 : decode cJ7_copyOf_59c91 24 = .ok (.iload_n 1, 1) := by decide +kernel
theorem dr_cJ7_copyOf_59c91_25 : decode cJ7_copyOf_59c91 25 = .ok (.invokestatic 304, 3) := by decide +kernel
theorem dr_cJ7_copyOf_59c91_28 : decode cJ7_copyOf_59c91 28 = .ok (.invokestatic 150, 3) := by decide +kernel
theorem dr_cJ7_copyOf_59c91_31 : decode cJ7_copyOf_59c91 31 = .ok (.aload_n 2, 1) := by decide +kernel
theorem dr_cJ7_copyOf_59c91_32 : decode cJ7_copyOf_59c91 32 = .ok (.areturn, 1) := by decide +kernel
theorem dr_cX14_goal_0 : decode cX14_goal 0 = .ok (.aload_n 0, 1) := by decide +kernel
theorem dr_cX14_goal_1 : decode cX14_goal 1 = .ok (.getfield 143, 3) := by decide +kernel
theorem wr_9_51 : (Jvm.Cond.fieldLink "SpillForgeModel$Reader" (143 : Nat) "SpillForgeModel$Reader" "goalN" "I") ∈ gw := gw_9 51 rfl rfl
theorem dr_cX14_goal_4 : decode cX14_goal 4 = .ok (.aload_n 0, 1) := by decide +kernel
theorem dr_cX14_goal_5 : decode cX14_goal 5 = .ok (.getfield 25, 3) := by decide +kernel
theorem wr_9_50 : (Jvm.Cond.fieldLink "SpillForgeModel$Reader" (25 : Nat) "SpillForgeModel$Reader" "goals" "[I") ∈ gw := gw_9 50 rfl rfl
theorem dr_cX14_goal_8 : decode cX14_goal 8 = .ok (.arraylength, 1) := by decide +kernel
theorem dr_cX14_goal_9 : decode cX14_goal 9 = .ok (.if_icmp .ne 37, 3) := by decide +kernel
theorem dr_cX14_goal_46 : decode cX14_goal 46 = .ok (.aload_n 0, 1) := by decide +kernel
theorem dr_cX14_goal_47 : decode cX14_goal 47 = .ok (.getfield 21, 3) := by decide +kernel
theorem wr_9_49 : (Jvm.Cond.fieldLink "SpillForgeModel$Reader" (21 : Nat) "SpillForgeModel$Reader" "goalPlaces" "[I") ∈ gw := gw_9 49 rfl rfl
theorem dr_cX14_goal_50 : decode cX14_goal 50 = .ok (.aload_n 0, 1) := by decide +kernel
theorem dr_cX14_goal_51 : decode cX14_goal 51 = .ok (.getfield 143, 3) := by decide +kernel
theorem dr_cX14_goal_54 : decode cX14_goal 54 = .ok (.aload_n 0, 1) := by decide +kernel
theorem dr_cX14_goal_55 : decode cX14_goal 55 = .ok (.getfield 47, 3) := by decide +kernel
theorem dr_cX14_goal_58 : decode cX14_goal 58 = .ok (.iastore, 1) := by decide +kernel
theorem dr_cX14_goal_59 : decode cX14_goal 59 = .ok (.aload_n 0, 1) := by decide +kernel
theorem dr_cX14_goal_60 : decode cX14_goal 60 = .ok (.iconst 3, 1) := by decide +kernel
theorem dr_cX14_goal_61 : decode cX14_goal 61 = .ok (.invokevirtual 152, 3) := by decide +kernel
theorem wr_9_93 : (Jvm.Cond.methodLink "SpillForgeModel$Reader" (152 : Nat) ({ cls := "SpillForgeModel$Reader", name := "want", desc := "(I)I" } : Jvm.MethodName)) ∈ gw := gw_9 93 rfl rfl
theorem wr_9_96 : (Jvm.Cond.code ({ cls := "SpillForgeModel$Reader", name := "want", desc := "(I)I" } : Jvm.MethodName) prog_17_method_11_code (3 : Nat) (Option.some Jvm.ClassFile.FieldType.int)) ∈ gw := gw_9 96 rfl rfl
theorem wr_9_95 : (Jvm.Cond.instanceMethod ({ cls := "SpillForgeModel$Reader", name := "want", desc := "(I)I" } : Jvm.MethodName)) ∈ gw := gw_9 95 rfl rfl
theorem wr_p_80 : Cond.selects "SpillForgeModel$Reader" ⟨"SpillForgeModel$Reader", "want", "(I)I"⟩ ⟨"SpillForgeModel$Reader", "want", "(I)I"⟩ ∈ gw := gw_p _ 80 rfl rfl rfl
theorem dr_cX14_goal_64 : decode cX14_goal 64 = .ok (.istore_n 1, 1) := by decide +kernel
theorem dr_cX14_goal_65 : decode cX14_goal 65 = .ok (.aload_n 0, 1) := by decide +kernel
theorem dr_cX14_goal_66 : decode cX14_goal 66 = .ok (.getfield 25, 3) := by decide +kernel
theorem dr_cX14_goal_69 : decode cX14_goal 69 = .ok (.aload_n 0, 1) := by decide +kernel
theorem dr_cX14_goal_70 : decode cX14_goal 70 = .ok (.getfield 143, 3) := by decide +kernel
theorem dr_cX14_goal_73 : decode cX14_goal 73 = .ok (.iload_n 1, 1) := by decide +kernel
theorem dr_cX14_goal_74 : decode cX14_goal 74 = .ok (.iastore, 1) := by decide +kernel
theorem dr_cX14_goal_75 : decode cX14_goal 75 = .ok (.aload_n 0, 1) := by decide +kernel
theorem dr_cX14_goal_76 : decode cX14_goal 76 = .ok (.dup, 1) := by decide +kernel
theorem dr_cX14_goal_77 : decode cX14_goal 77 = .ok (.getfield 143, 3) := by decide +kernel
theorem dr_cX14_goal_80 : decode cX14_goal 80 = .ok (.iconst 1, 1) := by decide +kernel
theorem dr_cX14_goal_81 : decode cX14_goal 81 = .ok (.iadd, 1) := by decide +kernel
theorem dr_cX14_goal_82 : decode cX14_goal 82 = .ok (.putfield 143, 3) := by decide +kernel
theorem dr_cX14_goal_85 : decode cX14_goal 85 = .ok (.iload_n 1, 1) := by decide +kernel
theorem dr_cX14_goal_86 : decode cX14_goal 86 = .ok (.ireturn, 1) := by decide +kernel
theorem dr_cX14_goal_12 : decode cX14_goal 12 = .ok (.aload_n 0, 1) := by decide +kernel
theorem dr_cX14_goal_13 : decode cX14_goal 13 = .ok (.aload_n 0, 1) := by decide +kernel
theorem dr_cX14_goal_14 : decode cX14_goal 14 = .ok (.getfield 25, 3) := by decide +kernel
theorem dr_cX14_goal_17 : decode cX14_goal 17 = .ok (.iconst 2, 1) := by decide +kernel
theorem dr_cX14_goal_18 : decode cX14_goal 18 = .ok (.aload_n 0, 1) := by decide +kernel
theorem dr_cX14_goal_19 : decode cX14_goal 19 = .ok (.getfield 143, 3) := by decide +kernel
theorem dr_cX14_goal_22 : decode cX14_goal 22 = .ok (.imul, 1) := by decide +kernel
theorem dr_cX14_goal_23 : decode cX14_goal 23 = .ok (.invokestatic 146, 3) := by decide +kernel
theorem wr_10_114 : (Jvm.Cond.methodLink "SpillForgeModel$Reader" (146 : Nat) ({ cls := "java/util/Arrays", name := "copyOf", desc := "([II)[I" } : Jvm.MethodName)) ∈ gw := gw_10 114 rfl rfl
theorem wr_10_116 : (Jvm.Cond.code ({ cls := "java/util/Arrays", name := "copyOf", desc := "([II)[I" } : Jvm.MethodName) prog_44_method_123_code (3 : Nat) (Option.some (Jvm.ClassFile.FieldType.array Jvm.ClassFile.FieldType.int))) ∈ gw := gw_10 116 rfl rfl
theorem wr_10_115 : (Jvm.Cond.static ({ cls := "java/util/Arrays", name := "copyOf", desc := "([II)[I" } : Jvm.MethodName)) ∈ gw := gw_10 115 rfl rfl
theorem dr_cX14_goal_26 : decode cX14_goal 26 = .ok (.putfield 25, 3) := by decide +kernel
theorem dr_cX14_goal_29 : decode cX14_goal 29 = .ok (.aload_n 0, 1) := by decide +kernel
theorem dr_cX14_goal_30 : decode cX14_goal 30 = .ok (.aload_n 0, 1) := by decide +kernel
theorem dr_cX14_goal_31 : decode cX14_goal 31 = .ok (.getfield 21, 3) := by decide +kernel
theorem dr_cX14_goal_34 : decode cX14_goal 34 = .ok (.iconst 2, 1) := by decide +kernel
theorem dr_cX14_goal_35 : decode cX14_goal 35 = .ok (.aload_n 0, 1) := by decide +kernel
theorem dr_cX14_goal_36 : decode cX14_goal 36 = .ok (.getfield 143, 3) := by decide +kernel
theorem dr_cX14_goal_39 : decode cX14_goal 39 = .ok (.imul, 1) := by decide +kernel
theorem dr_cX14_goal_40 : decode cX14_goal 40 = .ok (.invokestatic 146, 3) := by decide +kernel
theorem dr_cX14_goal_43 : decode cX14_goal 43 = .ok (.putfield 21, 3) := by decide +kernel
theorem dr_cX14_row_0 : decode cX14_row 0 = .ok (.aload_n 0, 1) := by decide +kernel
theorem dr_cX14_row_1 : decode cX14_row 1 = .ok (.ldc 179, 2) := by decide +kernel
theorem dr_cX14_row_3 : decode cX14_row 3 = .ok (.invokevirtual 132, 3) := by decide +kernel
theorem dr_cX14_row_6 : decode cX14_row 6 = .ok (.ifCond .eq 20, 3) := by decide +kernel
theorem dr_cX14_row_26 : decode cX14_row 26 = .ok (.aload_n 1, 1) := by decide +kernel
theorem dr_cX14_row_27 : decode cX14_row 27 = .ok (.aload_n 0, 1) := by decide +kernel
theorem dr_cX14_row_28 : decode cX14_row 28 = .ok (.iconst 2, 1) := by decide +kernel
theorem dr_cX14_row_29 : decode cX14_row 29 = .ok (.invokevirtual 152, 3) := by decide +kernel
theorem dr_cX14_row_32 : decode cX14_row 32 = .ok (.putfield 227, 3) := by decide +kernel
theorem wr_9_183 : (Jvm.Cond.fieldLink "SpillForgeModel$Reader" (227 : Nat) "SpillForgeModel$Row" "t" "I") ∈ gw := gw_9 183 rfl rfl
theorem dr_cX14_row_35 : decode cX14_row 35 = .ok (.aload_n 0, 1) := by decide +kernel
theorem dr_cX14_row_36 : decode cX14_row 36 = .ok (.ldc 229, 2) := by decide +kernel
theorem dr_cX14_row_38 : decode cX14_row 38 = .ok (.invokevirtual 173, 3) := by decide +kernel
theorem wr_9_137 : (Jvm.Cond.methodLink "SpillForgeModel$Reader" (173 : Nat) ({ cls := "SpillForgeModel$Reader", name := "want", desc := "(Ljava/lang/String;)V" } : Jvm.MethodName)) ∈ gw := gw_9 137 rfl rfl
theorem wr_9_140 : (Jvm.Cond.code ({ cls := "SpillForgeModel$Reader", name := "want", desc := "(Ljava/lang/String;)V" } : Jvm.MethodName) prog_17_method_10_code (2 : Nat) (Option.none : Option Jvm.ClassFile.FieldType)) ∈ gw := gw_9 140 rfl rfl
theorem wr_9_139 : (Jvm.Cond.instanceMethod ({ cls := "SpillForgeModel$Reader", name := "want", desc := "(Ljava/lang/String;)V" } : Jvm.MethodName)) ∈ gw := gw_9 139 rfl rfl
theorem wr_p_83 : Cond.selects "SpillForgeModel$Reader" ⟨"SpillForgeModel$Reader", "want", "(Ljava/lang/String;)V"⟩ ⟨"SpillForgeModel$Reader", "want", "(Ljava/lang/String;)V"⟩ ∈ gw := gw_p _ 83 rfl rfl rfl
theorem dr_cX14_row_41 : decode cX14_row 41 = .ok (.aload_n 0, 1) := by decide +kernel
theorem dr_cX14_row_42 : decode cX14_row 42 = .ok (.ldc 231, 2) := by decide +kernel
theorem dr_cX14_row_44 : decode cX14_row 44 = .ok (.invokevirtual 132, 3) := by decide +kernel
theorem dr_cX14_row_47 : decode cX14_row 47 = .ok (.ifCond .eq 14, 3) := by decide +kernel
theorem dr_cX14_row_61 : decode cX14_row 61 = .ok (.aload_n 0, 1) := by decide +kernel
theorem dr_cX14_row_62 : decode cX14_row 62 = .ok (.aload_n 1, 1) := by decide +kernel
theorem dr_cX14_row_63 : decode cX14_row 63 = .ok (.iconst 0, 1) := by decide +kernel
theorem dr_cX14_row_64 : decode cX14_row 64 = .ok (.invokevirtual 223, 3) := by decide +kernel
theorem wr_10_89 : (Jvm.Cond.methodLink "SpillForgeModel$Reader" (223 : Nat) ({ cls := "SpillForgeModel$Reader", name := "operand", desc := "(LSpillForgeModel$Row;Z)V" } : Jvm.MethodName)) ∈ gw := gw_10 89 rfl rfl
theorem wr_10_92 : (Jvm.Cond.code ({ cls := "SpillForgeModel$Reader", name := "operand", desc := "(LSpillForgeModel$Row;Z)V" } : Jvm.MethodName) prog_17_method_16_code (4 : Nat) (Option.none : Option Jvm.ClassFile.FieldType)) ∈ gw := gw_10 92 rfl rfl
theorem wr_10_91 : (Jvm.Cond.instanceMethod ({ cls := "SpillForgeModel$Reader", name := "operand", desc := "(LSpillForgeModel$Row;Z)V" } : Jvm.MethodName)) ∈ gw := gw_10 91 rfl rfl
theorem wr_p_89 : Cond.selects "SpillForgeModel$Reader" ⟨"SpillForgeModel$Reader", "operand", "(LSpillForgeModel$Row;Z)V"⟩ ⟨"SpillForgeModel$Reader", "operand", "(LSpillForgeModel$Row;Z)V"⟩ ∈ gw := gw_p _ 89 rfl rfl rfl
theorem dr_cX14_row_67 : decode cX14_row 67 = .ok (.aload_n 1, 1) := by decide +kernel
theorem dr_cX14_row_68 : decode cX14_row 68 = .ok (.aload_n 0, 1) := by decide +kernel
theorem dr_cX14_row_69 : decode cX14_row 69 = .ok (.getfield 38, 3) := by decide +kernel
theorem dr_cX14_row_72 : decode cX14_row 72 = .ok (.iconst 5, 1) := by decide +kernel
theorem dr_cX14_row_73 : decode cX14_row 73 = .ok (.if_icmp .ne 13, 3) := by decide +kernel
theorem dr_cX14_row_86 : decode cX14_row 86 = .ok (.iconst 0, 1) := by decide +kernel
theorem dr_cX14_row_87 : decode cX14_row 87 = .ok (.putfield 220, 3) := by decide +kernel
theorem wr_9_179 : (Jvm.Cond.fieldLink "SpillForgeModel$Reader" (220 : Nat) "SpillForgeModel$Row" "op" "I") ∈ gw := gw_9 179 rfl rfl
theorem dr_cX14_row_90 : decode cX14_row 90 = .ok (.aload_n 1, 1) := by decide +kernel
theorem dr_cX14_row_91 : decode cX14_row 91 = .ok (.getfield 220, 3) := by decide +kernel
theorem dr_cX14_row_94 : decode cX14_row 94 = .ok (.ifCond .ne 4, 3) := by decide +kernel
theorem dr_cX14_row_97 : decode cX14_row 97 = .ok (.return_, 1) := by decide +kernel
theorem dr_cX14_row_76 : decode cX14_row 76 = .ok (.aload_n 0, 1) := by decide +kernel
theorem dr_cX14_row_77 : decode cX14_row 77 = .ok (.getfield 11, 3) := by decide +kernel
theorem dr_cX14_row_80 : decode cX14_row 80 = .ok (.invokestatic 233, 3) := by decide +kernel
theorem wr_10_97 : (Jvm.Cond.code ({ cls := "SpillForgeModel", name := "operation", desc := "(Ljava/lang/String;)I" } : Jvm.MethodName) prog_14_method_1_code (4 : Nat) (Option.some Jvm.ClassFile.FieldType.int)) ∈ gw := gw_10 97 rfl rfl
theorem wr_10_96 : (Jvm.Cond.static ({ cls := "SpillForgeModel", name := "operation", desc := "(Ljava/lang/String;)I" } : Jvm.MethodName)) ∈ gw := gw_10 96 rfl rfl
theorem dr_cX14_row_83 : decode cX14_row 83 = .ok (.goto 4, 3) := by decide +kernel
theorem dr_cX14_row_98 : decode cX14_row 98 = .ok (.aload_n 0, 1) := by decide +kernel
theorem dr_cX14_row_99 : decode cX14_row 99 = .ok (.invokevirtual 35, 3) := by decide +kernel
theorem dr_cX14_row_102 : decode cX14_row 102 = .ok (.aload_n 0, 1) := by decide +kernel
theorem dr_cX14_row_103 : decode cX14_row 103 = .ok (.aload_n 1, 1) := by decide +kernel
theorem dr_cX14_row_104 : decode cX14_row 104 = .ok (.iconst 1, 1) := by decide +kernel
theorem dr_cX14_row_105 : decode cX14_row 105 = .ok (.invokevirtual 223, 3) := by decide +kernel
theorem dr_cX14_row_108 : decode cX14_row 108 = .ok (.return_, 1) := by decide +kernel
theorem dr_cX14_row_50 : decode cX14_row 50 = .ok (.aload_n 0, 1) := by decide +kernel
theorem dr_cX14_row_51 : decode cX14_row 51 = .ok (.invokevirtual 35, 3) := by decide +kernel
theorem dr_cX14_row_54 : decode cX14_row 54 = .ok (.aload_n 1, 1) := by decide +kernel
theorem dr_cX14_row_55 : decode cX14_row 55 = .ok (.bipush 20, 2) := by decide +kernel
theorem dr_cX14_row_57 : decode cX14_row 57 = .ok (.putfield 220, 3) := by decide +kernel
theorem dr_cX14_row_60 : decode cX14_row 60 = .ok (.return_, 1) := by decide +kernel
theorem dr_cX14_row_9 : decode cX14_row 9 = .ok (.aload_n 0, 1) := by decide +kernel
theorem dr_cX14_row_10 : decode cX14_row 10 = .ok (.invokevirtual 35, 3) := by decide +kernel
theorem dr_cX14_row_13 : decode cX14_row 13 = .ok (.aload_n 1, 1) := by decide +kernel
theorem dr_cX14_row_14 : decode cX14_row 14 = .ok (.bipush 22, 2) := by decide +kernel
theorem dr_cX14_row_16 : decode cX14_row 16 = .ok (.putfield 220, 3) := by decide +kernel
theorem dr_cX14_row_19 : decode cX14_row 19 = .ok (.aload_n 0, 1) := by decide +kernel
theorem dr_cX14_row_20 : decode cX14_row 20 = .ok (.aload_n 1, 1) := by decide +kernel
theorem dr_cX14_row_21 : decode cX14_row 21 = .ok (.iconst 0, 1) := by decide +kernel
theorem dr_cX14_row_22 : decode cX14_row 22 = .ok (.invokevirtual 223, 3) := by decide +kernel
theorem dr_cX14_row_25 : decode cX14_row 25 = .ok (.return_, 1) := by decide +kernel
abbrev ky_656653_Arrays_copyOf : gKey := (cJ7_copyOf_59c91, 3, "java/util/Arrays", (some (FieldType.array FieldType.int)), [], "copyOf", fun _ _ => True)
def pp_656653_Arrays_copyOf (D : va_G) (I : FieldType → ClassId) (P656645 : List Nat) (F656646 : Nat → va_E) (q656647 : Nat) (p656648 : Int32) (f656649 : Nat → Int32) (n656650 : Nat) : Option Value → va_W → Nat → Nat → Prop := fun r w dc ds => ∃ (P656683 : List Nat) (F656684 : Nat → va_E) (q656681 : Nat) (f656682 : Nat → Int32), r = some (.ref q656681) ∧ w = va_pl P656683 F656684 ∧ rSub P656645 P656683 ∧ rFr [] P656645 F656646 F656684 ∧ F656684 q656647 = .inl (I .int, n656650, .inl f656649) ∧ F656684 q656681 = .inl (I .int, p656648.toInt.toNat, .inl f656682) ∧ q656681 ∈ P656683 ∧ q656681 ∉ P656645 ∧ dc ≤ 1 ∧ ds ≤ p656648.toInt.toNat ∧ (p656648.toInt.toNat : Int) = p656648.toInt
set_option maxRecDepth 100000 in
set_option maxHeartbeats 4000000 in
theorem cp_656653_Arrays_copyOf (l : Launch) (hl0 : l.stackTraces = false) (D : va_G) (I : FieldType → ClassId) (P656645 : List Nat) (F656646 : Nat → va_E) (q656647 : Nat) (p656648 : Int32) (f656649 : Nat → Int32) (n656650 : Nat) (hmq656647 : q656647 ∈ P656645) (heq656647 : F656646 q656647 = .inl (I .int, n656650, .inl f656649)) (bp656648 : gB p656648 32 32768) (x656651 : (n656650 : Int) < p656648.toInt) (x656652 : ((n656650 : Int) ≤ 16777216)) : CtA (gV D I) l yJ7_copyOf_59c91 cJ7_copyOf_59c91 3 (some (FieldType.array FieldType.int)) 1 18 1 p656648.toInt.toNat [.ref q656647, .int p656648] (va_pl P656645 F656646) (pp_656653_Arrays_copyOf D I P656645 F656646 q656647 p656648 f656649 n656650) gNA := by
  refine CtA_ofF hl0 (by decide +kernel) (Nat.le_of_ble_eq_true rfl) ?_
  refine G_iload_n 1 dr_cJ7_copyOf_59c91_0 rfl ?_
  refine G_aload_n 0 dr_cJ7_copyOf_59c91_1 rfl ?_
  refine Gp_alen (Int32.ofNat n656650) 0 hmq656647 heq656647 dr_cJ7_copyOf_59c91_2 rfl rfl (G_nam fun z656654 hz656654 => ?_)
  have ez656654 : z656654.toInt = (n656650 : Nat) := gI_ofM hz656654 (by omega)
  have bz656654 : gB z656654 0 16777216 := ⟨by omega, by omega⟩
  refine G_icmp_ne 14 dr_cJ7_copyOf_59c91_3 (by decide +kernel) (fun hc656655 => ?_) (fun hc => absurd (show False by have := gC_eq hc; omega) not_false)
  have r656657 : p656648.toInt ≠ z656654.toInt := gC_ne hc656655
  refine G_iload_n 1 dr_cJ7_copyOf_59c91_14 rfl ?_
  refine G_newa 0 (p656648.toInt.toNat, .inl (fun _ => 0)) dr_cJ7_copyOf_59c91_15 rfl rfl (by intro C h; cases h) wr_1_95 (fun _ => ga_int _ _) (g_n0 (by omega)) rfl (show p656648.toInt.toNat * 4 ≤ 536870912 by omega) (show 0 + 1 ≤ 1 by first | omega | decide) (show 0 + p656648.toInt.toNat ≤ p656648.toInt.toNat by first | omega | decide) (fun q656658 => Gp_in (fun P656659 F656660 hq656661 hP656662 e656663 n656664 => ?_))
  refine G_widen (cs' := 1) (sl' := p656648.toInt.toNat) (by omega) (by omega) ?_
  have he656665 : F656660 q656647 = .inl (I .int, n656650, .inl f656649) := (n656664 q656647 (fun h => hq656661 (h ▸ hmq656647))).trans heq656647
  have he656666 : F656660 q656658 = .inl (I .int, p656648.toInt.toNat, .inl (fun _ => 0)) := e656663
  have hm656667 : q656647 ∈ P656659 := (hP656662 q656647).mpr (Or.inl hmq656647)
  have hm656668 : q656658 ∈ P656659 := (hP656662 q656658).mpr (Or.inr rfl)
  have hq656669 : q656658 ∉ P656645 := fun z => hq656661 ((rSub_rf (P := P656645)) q656658 z)
  have hfr656670 : rFr [] P656645 F656646 F656660 := rFr_new (rSub_rf (P := P656645)) hq656661 (rFr_rf (W := []) (P := P656645) (F := F656646)) n656664
  have hsb656671 : rSub P656645 P656659 := rSub_new (rSub_rf (P := P656645)) hP656662
  refine G_astore_n (L' := [(2, .ref q656658), (0, .ref q656647), (1, .int p656648)]) dr_cJ7_copyOf_59c91_17 (Nat.le_of_ble_eq_true rfl) rfl ?_
  refine G_aload_n 1 dr_cJ7_copyOf_59c91_18 rfl ?_
  refine G_iconst 0 dr_cJ7_copyOf_59c91_19 (by decide +kernel) ?_
  refine G_aload_n 0 dr_cJ7_copyOf_59c91_20 rfl ?_
  refine G_iconst 0 dr_cJ7_copyOf_59c91_21 (by decide +kernel) ?_
  refine G_aload_n 1 dr_cJ7_copyOf_59c91_22 rfl ?_
  refine Gp_alen (Int32.ofNat n656650) 0 hm656667 he656665 dr_cJ7_copyOf_59c91_23 rfl rfl (G_nam fun z656672 hz656672 => ?_)
  have ez656672 : z656672.toInt = (n656650 : Nat) := gI_ofM hz656672 (by omega)
  have bz656672 : gB z656672 0 16777216 := ⟨by omega, by omega⟩
  refine G_iload_n 2 dr_cJ7_copyOf_59c91_24 rfl ?_
  refine G_mmin dr_cJ7_copyOf_59c91_25 wr_8_31 wr_3_227 wr_1_6 wr_3_228 (Nat.le_of_ble_eq_true rfl) (Nat.le_of_ble_eq_true rfl) (show 1 ≤ 1 by first | omega | decide) (show p656648.toInt.toNat ≤ p656648.toInt.toNat by first | omega | decide) (G_nam fun z656673 hz656673 => ?_)
  have ez656673 : z656672.toInt ≥ z656673.toInt ∧ p656648.toInt ≥ z656673.toInt ∧ (z656673.toInt = z656672.toInt ∨ z656673.toInt = p656648.toInt) := by have := gI_min hz656673; omega
  have bz656673 : gB z656673 0 32768 := ⟨by omega, by omega⟩
  refine Gp_copyp 0 hm656667 hm656668 he656665 he656666 dr_cJ7_copyOf_59c91_28 wr_8_32 wr_5_113 wr_5_112 wr_1_34 rfl rfl (fun _ => rfl) (by decide) (by decide) (by omega) (by have qa0 : Int32.toInt 0 = 0 := (by decide); omega) (by have qa0 : Int32.toInt 0 = 0 := (by decide); omega) (Nat.le_of_ble_eq_true rfl) (Nat.le_of_ble_eq_true rfl) (fun F656674 e656675 n656676 => ?_)
  obtain ⟨f656677, hf656677⟩ : ∃ z, z = va_cpy f656649 (fun _ => 0) (0 : Int32).toNatClampNeg (0 : Int32).toNatClampNeg z656673.toNatClampNeg := ⟨_, rfl⟩
  rw [← hf656677] at e656675
  have he656678 : F656674 q656647 = .inl (I .int, n656650, .inl f656649) := (n656676 q656647 (fun h => hq656669 (h ▸ hmq656647))).trans he656665
  have he656679 : F656674 q656658 = .inl (I .int, p656648.toInt.toNat, .inl f656677) := e656675
  have hfr656680 : rFr [] P656645 F656646 F656674 := rFr_newp hq656669 hfr656670 n656676
  refine G_aload_n 0 dr_cJ7_copyOf_59c91_31 rfl ?_
  exact G_aretA (FieldType.array FieldType.int) dr_cJ7_copyOf_59c91_32 rfl (by first | exact Or.inl ⟨_, rfl⟩ | exact Or.inr ⟨_, rfl⟩) (Or.inr ⟨_, rfl⟩) (Nat.le_of_ble_eq_true rfl) (show p656648.toInt.toNat ≤ p656648.toInt.toNat by omega) ⟨P656659, F656674, q656658, f656677, rfl, rfl, hsb656671, hfr656680, he656678, he656679, hm656668, hq656669, (Nat.le_of_ble_eq_true rfl), (by omega), (by omega)⟩
abbrev ky_656566_Reader_goal : gKey := (cX14_goal, 2, "SpillForgeModel$Reader", (some FieldType.int), [], "goal", fun _ _ => True)
def pp_656566_Reader_goal (D : va_G) (I : FieldType → ClassId) (P656534 : List Nat) (F656535 : Nat → va_E) (q656536 : Nat) (q656537 : Nat) (q656538 : Nat) (q656539 : Nat) (p656540 : Int32) (p656541 : Int32) (p656542 : Int32) (p656543 : Int32) (p656544 : Int32) (p656545 : Int32) (qo656546 : Nat) (p656547 : Int32) (p656548 : Int32) (p656549 : Int32) (p656550 : Int32) (f656551 : Nat → Int32) (f656552 : Nat → Int32) (n656553 : Nat) (f656554 : Nat → Int32) (n656555 : Nat) : Option Value → va_W → Nat → Nat → Prop := fun r w dc ds => ∃ (P656887 : List Nat) (F656888 : Nat → va_E) (o656875 : Int32) (o656876 : Int32) (o656877 : Int32) (o656878 : Int32) (q656879 : Nat) (o656880 : Int32) (q656881 : Nat) (n656882 : Nat) (f656883 : Nat → Int32) (q656884 : Nat) (n656885 : Nat) (f656886 : Nat → Int32), r = some (.int p656544) ∧ w = va_pl P656887 F656888 ∧ rSub P656534 P656887 ∧ rFr [q656539, q656538, q656536] P656534 F656535 F656888 ∧ F656888 q656881 = .inl (I .int, n656882, .inl f656883) ∧ F656888 q656884 = .inl (I .int, n656885, .inl f656886) ∧ F656888 q656536 = .inr (19, [.ref q656537, .int p656540, .int o656875, .int o656876, .int o656877, .int o656878, .int p656542, .ref q656879, .int p656547, .int p656548, .int p656549, .ref q656881, .ref q656884, .int o656880]) ∧ F656888 q656537 = .inl (I .byte, 8192, .inl f656551) ∧ q656881 ∈ P656887 ∧ (q656881 = q656538 ∨ q656881 ∉ P656534) ∧ q656884 ∈ P656887 ∧ (q656884 = q656539 ∨ q656884 ∉ P656534) ∧ dc ≤ (16 * (o656875.toInt - p656541.toInt)).toNat + 2 ∧ ds ≤ (256 * (o656875.toInt - p656541.toInt)).toNat + 4 * (n656885 - n656555) ∧ gB o656875 0 8192 ∧ gB o656876 0 6 ∧ gB o656877 0 8192 ∧ gB o656880 1 1000000 ∧ p656541.toInt ≤ o656875.toInt ∧ prP o656876 p656541 o656875 ∧ o656875.toInt ≤ p656540.toInt ∧ tP I P656887 F656888 o656876 q656879 q656884 q656881 ∧ vP o656876 o656878 ∧ vP 3 p656544 ∧ p656542.toInt = 3 ∧ (n656885 : Int) ≤ 2 * (n656555 : Int) ∧ q656884 ≠ q656881 ∧ (n656885 : Int) = (n656882 : Int) ∧ o656880.toInt = p656550.toInt + 1 ∧ o656880.toInt ≤ (n656885 : Int) ∧ 16 ≤ (n656885 : Int) ∧ (n656885 : Int) ≤ 2 * o656880.toInt + 16 ∧ (n656555 : Int) ≤ (n656885 : Int)
def xp_656566_Reader_goal (D : va_G) (I : FieldType → ClassId) (P656534 : List Nat) (F656535 : Nat → va_E) (q656536 : Nat) (q656537 : Nat) (q656538 : Nat) (q656539 : Nat) (p656540 : Int32) (p656541 : Int32) (p656542 : Int32) (p656543 : Int32) (p656544 : Int32) (p656545 : Int32) (qo656546 : Nat) (p656547 : Int32) (p656548 : Int32) (p656549 : Int32) (p656550 : Int32) (f656551 : Nat → Int32) (f656552 : Nat → Int32) (n656553 : Nat) (f656554 : Nat → Int32) (n656555 : Nat) : String → Nat → va_W → Nat → Nat → Prop := fun E q w dc ds => ∃ (P656890 : List Nat) (F656889 : Nat → va_E), E = "SpillForgeModel$Wrong" ∧ w = va_pl P656890 F656889 ∧ rSub P656534 P656890 ∧ rFr [q656538, q656536] P656534 F656535 F656889 ∧ q ∈ P656890 ∧ q ∉ P656534 ∧ wrF F656889 q ∧ dc ≤ (16 * (p656540.toInt - p656541.toInt)).toNat + 3 ∧ ds ≤ (256 * (p656540.toInt - p656541.toInt)).toNat + 4 * n656555 + 7
set_option maxRecDepth 100000 in
set_option maxHeartbeats 4000000 in
theorem cp_656566_Reader_goal (l : Launch) (hl0 : l.stackTraces = false) (D : va_G) (I : FieldType → ClassId) (P656534 : List Nat) (F656535 : Nat → va_E) (q656536 : Nat) (q656537 : Nat) (q656538 : Nat) (q656539 : Nat) (p656540 : Int32) (p656541 : Int32) (p656542 : Int32) (p656543 : Int32) (p656544 : Int32) (p656545 : Int32) (qo656546 : Nat) (p656547 : Int32) (p656548 : Int32) (p656549 : Int32) (p656550 : Int32) (f656551 : Nat → Int32) (f656552 : Nat → Int32) (n656553 : Nat) (f656554 : Nat → Int32) (n656555 : Nat) (hmq656536 : q656536 ∈ P656534) (hmq656537 : q656537 ∈ P656534) (hmq656538 : q656538 ∈ P656534) (hmq656539 : q656539 ∈ P656534) (heq656536 : F656535 q656536 = .inr (19, [.ref q656537, .int p656540, .int p656541, .int p656542, .int p656543, .int p656544, .int p656545, .ref qo656546, .int p656547, .int p656548, .int p656549, .ref q656538, .ref q656539, .int p656550])) (heq656537 : F656535 q656537 = .inl (I .byte, 8192, .inl f656551)) (heq656538 : F656535 q656538 = .inl (I .int, n656553, .inl f656552)) (heq656539 : F656535 q656539 = .inl (I .int, n656555, .inl f656554)) (hneq656537q656538 : q656537 ≠ q656538) (hneq656537q656539 : q656537 ≠ q656539) (hneq656538q656539 : q656538 ≠ q656539) (bp656540 : gB p656540 0 8192) (bp656541 : gB p656541 0 8192) (bp656542 : gB p656542 0 6) (bp656543 : gB p656543 0 8192) (bp656545 : gB p656545 0 6) (bp656547 : gB p656547 (-1) 8192) (bp656548 : gB p656548 0 4) (bp656549 : gB p656549 0 1000000) (bp656550 : gB p656550 0 1000000) (bf656551 : gF f656551 (-128) 127) (x656556 : p656541.toInt ≤ p656540.toInt) (x656557 : tP I P656534 F656535 p656542 qo656546 q656539 q656538) (x656558 : vP p656542 p656544) (x656559 : (n656555 : Int) = (n656553 : Int)) (x656560 : p656550.toInt ≤ (n656555 : Int)) (x656561 : 16 ≤ (n656555 : Int)) (x656562 : (n656555 : Int) ≤ 2 * p656550.toInt + 16) (x656563 : p656550.toInt ≤ 16000) (x656564 : ((n656553 : Int) ≤ 16777216)) (x656565 : ((n656555 : Int) ≤ 16777216)) : CtA (gV D I) l yX14_goal cX14_goal 2 (some FieldType.int) 9 199 ((16 * (p656540.toInt - p656541.toInt)).toNat + 3) ((256 * (p656540.toInt - p656541.toInt)).toNat + 4 * n656555 + 7) [.ref q656536] (va_pl P656534 F656535) (pp_656566_Reader_goal D I P656534 F656535 q656536 q656537 q656538 q656539 p656540 p656541 p656542 p656543 p656544 p656545 qo656546 p656547 p656548 p656549 p656550 f656551 f656552 n656553 f656554 n656555) (xp_656566_Reader_goal D I P656534 F656535 q656536 q656537 q656538 q656539 p656540 p656541 p656542 p656543 p656544 p656545 qo656546 p656547 p656548 p656549 p656550 f656551 f656552 n656553 f656554 n656555) := by
  refine CtA_of hl0 (by decide) (Nat.le_of_ble_eq_true rfl) ?_
  have bp656544 := gB_any p656544
  refine G_aload_n 0 dr_cX14_goal_0 rfl ?_
  refine Gp_get 13 hmq656536 heq656536 dr_cX14_goal_1 (gk_X14 D I) (Nat.le_of_ble_eq_true rfl) wr_9_51 rfl ?_
  refine G_aload_n 0 dr_cX14_goal_4 rfl ?_
  refine Gp_get 12 hmq656536 heq656536 dr_cX14_goal_5 (gk_X14 D I) (Nat.le_of_ble_eq_true rfl) wr_9_50 rfl ?_
  refine Gp_alen (Int32.ofNat n656555) 0 hmq656539 heq656539 dr_cX14_goal_8 rfl rfl (G_nam fun z656567 hz656567 => ?_)
  have ez656567 : z656567.toInt = (n656555 : Nat) := gI_ofM hz656567 (by omega)
  have bz656567 : gB z656567 0 16777216 := ⟨by omega, by omega⟩
  refine G_icmp_ne 46 dr_cX14_goal_9 (by decide +kernel) (fun hc656568 => ?_) (fun hc656568 => ?_)
  · have r656569 : p656550.toInt ≠ z656567.toInt := gC_ne hc656568
    refine G_aload_n 0 dr_cX14_goal_46 rfl ?_
    refine Gp_get 11 hmq656536 heq656536 dr_cX14_goal_47 (gk_X14 D I) (Nat.le_of_ble_eq_true rfl) wr_9_49 rfl ?_
    refine G_aload_n 0 dr_cX14_goal_50 rfl ?_
    refine Gp_get 13 hmq656536 heq656536 dr_cX14_goal_51 (gk_X14 D I) (Nat.le_of_ble_eq_true rfl) wr_9_51 rfl ?_
    refine G_aload_n 0 dr_cX14_goal_54 rfl ?_
    refine Gp_get 4 hmq656536 heq656536 dr_cX14_goal_55 (gk_X14 D I) (Nat.le_of_ble_eq_true rfl) wr_9_40 rfl ?_
    refine Gp_iast 0 hmq656538 heq656538 dr_cX14_goal_58 rfl (gB_inr (by omega) (by omega)) (fun F656570 e656571 n656572 => ?_)
    obtain ⟨f656573, hf656573⟩ : ∃ z, z = upd f656552 p656550.toNatClampNeg p656543 := ⟨_, rfl⟩
    rw [← hf656573] at e656571
    have he656574 : F656570 q656536 = .inr (19, [.ref q656537, .int p656540, .int p656541, .int p656542, .int p656543, .int p656544, .int p656545, .ref qo656546, .int p656547, .int p656548, .int p656549, .ref q656538, .ref q656539, .int p656550]) := (n656572 q656536 (rn_oa heq656536 heq656538)).trans heq656536
    have he656575 : F656570 q656537 = .inl (I .byte, 8192, .inl f656551) := (n656572 q656537 hneq656537q656538).trans heq656537
    have he656576 : F656570 q656539 = .inl (I .int, n656555, .inl f656554) := (n656572 q656539 (Ne.symm hneq656538q656539)).trans heq656539
    have he656577 : F656570 q656538 = .inl (I .int, n656553, .inl f656573) := e656571
    have hfr656578 : rFr [q656538] P656534 F656535 F656570 := rFr_put (rFr_rf (W := []) (P := P656534) (F := F656535)) n656572
    have tp656579 : tP I P656534 F656570 p656542 qo656546 q656539 q656538 := tP_pa x656557 heq656538 (Or.inr rfl) n656572
    refine G_aload_n 0 dr_cX14_goal_59 rfl ?_
    refine G_iconst 3 dr_cX14_goal_60 (by decide +kernel) ?_
    refine Gw_callV (As := [.int 3]) (gV_ok D I) (cp_655795_Reader_want l hl0 D I P656534 F656570 q656536 q656537 3 p656540 p656541 p656542 p656543 p656544 p656545 qo656546 p656547 p656548 p656549 q656538 q656539 p656550 f656551 hmq656536 hmq656537 he656574 he656575 (gB_w (gBl (show Int32.toInt 3 = 3 by decide)) (by decide) (by decide)) bp656540 bp656541 bp656542 bp656543 bp656545 bp656547 bp656548 bp656549 bp656550 bf656551 (by omega) hmq656539 hmq656538 tp656579 x656558) dr_cX14_goal_61 ⟨wr_9_93, wr_1_32, wr_9_96, by decide, rfl, (Nat.le_of_ble_eq_true rfl), (Nat.le_of_ble_eq_true rfl)⟩ wr_9_95 wr_p_80 hmq656536 he656574 rfl (show 0 + ((16 * (p656540.toInt - p656541.toInt)).toNat + 1) ≤ ((16 * (p656540.toInt - p656541.toInt)).toNat + 3) by first | omega | decide) (show 0 + ((256 * (p656540.toInt - p656541.toInt)).toNat + 7) ≤ ((256 * (p656540.toInt - p656541.toInt)).toNat + 4 * n656555 + 7) by first | omega | decide) (Nat.le_of_ble_eq_true rfl) (fun r656583 w656584 dc656580 ds656581 hp656582 => ?_) (fun _ qx656596 _ dc656594 ds656595 hx => by obtain ⟨P656592, F656593, rfl, rfl, hsb656585, hfr656586, hq656587, hqn656588, hwr656589, hdc656590, hds656591⟩ := hx; exact GT_outA rfl (show 0 + dc656594 ≤ ((16 * (p656540.toInt - p656541.toInt)).toNat + 3) by omega) (show 0 + ds656595 ≤ ((256 * (p656540.toInt - p656541.toInt)).toNat + 4 * n656555 + 7) by omega) ⟨P656592, F656593, rfl, rfl, (rSub_tr (rSub_rf (P := P656534)) hsb656585), (rFr_v (show rFr [q656538] P656534 F656535 F656593 from rFr_call (rSub_rf (P := P656534)) hfr656578 hfr656586 (fun b hb hn => ⟨(nm_c (fun e => hn (e ▸ List.mem_cons_self)) nm_n), nm_n⟩)) (fun b hn => (nm_c (fun e => hn (e ▸ List.mem_cons_self)) nm_n))), hq656587, (fun z => hqn656588 ((rSub_rf (P := P656534)) _ z)), hwr656589, (by omega), (by omega)⟩)
    obtain ⟨P656609, F656610, o656597, o656598, o656599, o656600, q656601, rfl, rfl, hsb656611, hfr656612, he656613, he656614, hdc, hds, bo656597, bo656598, bo656599, x656602, x656603, x656604, x656605, x656606, x656607, x656608⟩ := hp656582
    have hm656615 : q656536 ∈ P656609 := hsb656611 q656536 hmq656536
    have hm656616 : q656537 ∈ P656609 := hsb656611 q656537 hmq656537
    have hm656617 : q656538 ∈ P656609 := hsb656611 q656538 hmq656538
    have hm656618 : q656539 ∈ P656609 := hsb656611 q656539 hmq656539
    have hsb656619 : rSub P656534 P656609 := rSub_tr (rSub_rf (P := P656534)) hsb656611
    have he656620 : F656610 q656538 = .inl (I .int, n656553, .inl f656573) := (hfr656612 q656538 hmq656538 (nm_c (rn_ao he656577 he656574) nm_n)).trans he656577
    have he656621 : F656610 q656539 = .inl (I .int, n656555, .inl f656554) := (hfr656612 q656539 hmq656539 (nm_c (rn_ao he656576 he656574) nm_n)).trans he656576
    have hfr656622 : rFr [q656538, q656536] P656534 F656535 F656610 := rFr_call (rSub_rf (P := P656534)) hfr656578 hfr656612 (fun b hb hn => ⟨(nm_c (fun e => hn (e ▸ List.mem_cons_self)) nm_n), (nm_c (fun e => hn (e ▸ (List.mem_cons_of_mem _ List.mem_cons_self))) nm_n)⟩)
    have bo656600 := gB_any o656600
    rw [show Int32.toInt 3 = 3 from by decide] at x656608
    change G _ _ _ _ _ _ _ (.int p656544 :: _) _ _ _
    refine G_widen (cs' := (16 * (o656597.toInt - p656541.toInt)).toNat) (sl' := (256 * (o656597.toInt - p656541.toInt)).toNat) (by omega) (by omega) ?_
    refine G_istore_n (L' := [(1, .int p656544), (0, .ref q656536)]) dr_cX14_goal_64 (Nat.le_of_ble_eq_true rfl) rfl ?_
    refine G_aload_n 1 dr_cX14_goal_65 rfl ?_
    refine Gp_get 12 hm656615 he656613 dr_cX14_goal_66 (gk_X14 D I) (Nat.le_of_ble_eq_true rfl) wr_9_50 rfl ?_
    refine G_aload_n 1 dr_cX14_goal_69 rfl ?_
    refine Gp_get 13 hm656615 he656613 dr_cX14_goal_70 (gk_X14 D I) (Nat.le_of_ble_eq_true rfl) wr_9_51 rfl ?_
    refine G_iload_n 0 dr_cX14_goal_73 rfl ?_
    refine Gp_iast 0 hm656618 he656621 dr_cX14_goal_74 rfl (gB_inr (by omega) (by omega)) (fun F656623 e656624 n656625 => ?_)
    obtain ⟨f656626, hf656626⟩ : ∃ z, z = upd f656554 p656550.toNatClampNeg p656544 := ⟨_, rfl⟩
    rw [← hf656626] at e656624
    have he656627 : F656623 q656538 = .inl (I .int, n656553, .inl f656573) := (n656625 q656538 hneq656538q656539).trans he656620
    have he656628 : F656623 q656536 = .inr (19, [.ref q656537, .int p656540, .int o656597, .int o656598, .int o656599, .int o656600, .int p656542, .ref q656601, .int p656547, .int p656548, .int p656549, .ref q656538, .ref q656539, .int p656550]) := (n656625 q656536 (rn_oa he656613 he656621)).trans he656613
    have he656629 : F656623 q656537 = .inl (I .byte, 8192, .inl f656551) := (n656625 q656537 hneq656537q656539).trans he656614
    have he656630 : F656623 q656539 = .inl (I .int, n656555, .inl f656626) := e656624
    have hfr656631 : rFr [q656539, q656538, q656536] P656534 F656535 F656623 := rFr_put hfr656622 n656625
    have tp656632 : tP I P656609 F656623 o656598 q656601 q656539 q656538 := tP_pa x656605 he656621 (Or.inl rfl) n656625
    refine G_aload_n 1 dr_cX14_goal_75 rfl ?_
    refine G_dup dr_cX14_goal_76 rfl ?_
    refine Gp_get 13 hm656615 he656628 dr_cX14_goal_77 (gk_X14 D I) (Nat.le_of_ble_eq_true rfl) wr_9_51 rfl ?_
    refine G_iconst 1 dr_cX14_goal_80 (by decide +kernel) ?_
    refine G_iadd dr_cX14_goal_81 (G_nam fun z656633 hz656633 => ?_)
    have ez656633 : z656633.toInt = p656550.toInt + 1 := by rw [gI_add hz656633 bp656550 (gBl (show Int32.toInt 1 = 1 by decide)) (by decide) (by decide), show Int32.toInt 1 = 1 from by decide]
    have bz656633 : gB z656633 1 1000001 := gB_add (gI_add hz656633 bp656550 (gBl (show Int32.toInt 1 = 1 by decide)) (by decide) (by decide)) bp656550 (gBl (show Int32.toInt 1 = 1 by decide)) (by decide) (by decide)
    refine Gp_put 13 hm656615 he656628 dr_cX14_goal_82 (gk_X14 D I) (Nat.le_of_ble_eq_true rfl) wr_9_51 rfl rfl rfl (Nat.le_of_ble_eq_true rfl) (fun F656634 e656635 n656636 => ?_)
    have he656637 : F656634 q656538 = .inl (I .int, n656553, .inl f656573) := (n656636 q656538 (rn_ao he656627 he656628)).trans he656627
    have he656638 : F656634 q656539 = .inl (I .int, n656555, .inl f656626) := (n656636 q656539 (rn_ao he656630 he656628)).trans he656630
    have he656639 : F656634 q656537 = .inl (I .byte, 8192, .inl f656551) := (n656636 q656537 (rn_ao he656629 he656628)).trans he656629
    have he656640 : F656634 q656536 = .inr (19, [.ref q656537, .int p656540, .int o656597, .int o656598, .int o656599, .int o656600, .int p656542, .ref q656601, .int p656547, .int p656548, .int p656549, .ref q656538, .ref q656539, .int z656633]) := e656635
    have hfr656641 : rFr [q656539, q656538, q656536] P656534 F656535 F656634 := rFr_put' (List.mem_cons_of_mem _ (List.mem_cons_of_mem _ List.mem_cons_self)) hfr656631 n656636
    have tp656642 : tP I P656609 F656634 o656598 q656601 q656539 q656538 := tP_put tp656632 he656628 (by decide) n656636
    refine G_iload_n 0 dr_cX14_goal_85 rfl ?_
    exact G_iretA dr_cX14_goal_86 rfl (show (16 * (o656597.toInt - p656541.toInt)).toNat ≤ ((16 * (p656540.toInt - p656541.toInt)).toNat + 3) by omega) (show (256 * (o656597.toInt - p656541.toInt)).toNat ≤ ((256 * (p656540.toInt - p656541.toInt)).toNat + 4 * n656555 + 7) by omega) ⟨P656609, F656634, o656597, o656598, o656599, o656600, q656601, z656633, q656538, n656553, f656573, q656539, n656555, f656626, rfl, rfl, hsb656619, hfr656641, he656637, he656638, he656640, he656639, hm656617, (Or.inl rfl), hm656618, (Or.inl rfl), (by omega), (by omega), bo656597, bo656598, bo656599, ⟨by omega, by omega⟩, (by omega), x656603, (by omega), tp656642, x656606, x656607, (by omega), (by omega), (Ne.symm hneq656538q656539), (by omega), (by omega), (by omega), (by omega), (by omega), (by omega)⟩
  · have r656643 : p656550.toInt = z656567.toInt := gC_eq hc656568
    have bz656567' : gB z656567 0 1000000 := ⟨by omega, by omega⟩
    refine G_aload_n 0 dr_cX14_goal_12 rfl ?_
    refine G_aload_n 0 dr_cX14_goal_13 rfl ?_
    refine Gp_get 12 hmq656536 heq656536 dr_cX14_goal_14 (gk_X14 D I) (Nat.le_of_ble_eq_true rfl) wr_9_50 rfl ?_
    refine G_iconst 2 dr_cX14_goal_17 (by decide +kernel) ?_
    refine G_aload_n 0 dr_cX14_goal_18 rfl ?_
    refine Gp_get 13 hmq656536 heq656536 dr_cX14_goal_19 (gk_X14 D I) (Nat.le_of_ble_eq_true rfl) wr_9_51 rfl ?_
    refine G_imul dr_cX14_goal_22 (G_nam fun z656644 hz656644 => ?_)
    have ez656644 : z656644.toInt = 2 * p656550.toInt := by rw [gI_mul hz656644 (gBl (show Int32.toInt 2 = 2 by decide)) bp656550 (by decide) (by decide) (by decide), show Int32.toInt 2 = 2 from by decide]
    have bz656644 : gB z656644 0 2000000 := gB_mul hz656644 (gBl (show Int32.toInt 2 = 2 by decide)) bp656550 (by decide) (by decide) (by decide) (by decide)
    refine Gw_callS (As := [.ref q656539, .int z656644]) (gV_ok D I) (cp_656653_Arrays_copyOf l hl0 D I P656534 F656535 q656539 z656644 f656554 n656555 hmq656539 heq656539 ⟨by omega, by omega⟩ (by omega) (by omega)) dr_cX14_goal_23 ⟨wr_10_114, wr_1_30, wr_10_116, by decide, rfl, (Nat.le_of_ble_eq_true rfl), (Nat.le_of_ble_eq_true rfl)⟩ wr_10_115 (show 0 + 1 ≤ ((16 * (p656540.toInt - p656541.toInt)).toNat + 3) by first | omega | decide) (show 0 + z656644.toInt.toNat ≤ ((256 * (p656540.toInt - p656541.toInt)).toNat + 4 * n656555 + 7) by first | omega | decide) (Nat.le_of_ble_eq_true rfl) (fun r656688 w656689 dc656685 ds656686 hp656687 => ?_) (fun _ _ _ _ _ z => z.elim)
    obtain ⟨P656693, F656694, q656690, f656691, rfl, rfl, hsb656695, hfr656696, he656697, he656698, hm656699, hq656700, hdc, hds, x656692⟩ := hp656687
    have hm656701 : q656536 ∈ P656693 := hsb656695 q656536 hmq656536
    have hm656702 : q656537 ∈ P656693 := hsb656695 q656537 hmq656537
    have hm656703 : q656538 ∈ P656693 := hsb656695 q656538 hmq656538
    have hm656704 : q656539 ∈ P656693 := hsb656695 q656539 hmq656539
    have hq656705 : q656690 ∉ P656534 := fun z => hq656700 ((rSub_rf (P := P656534)) q656690 z)
    have hsb656706 : rSub P656534 P656693 := rSub_tr (rSub_rf (P := P656534)) hsb656695
    have he656707 : F656694 q656536 = .inr (19, [.ref q656537, .int p656540, .int p656541, .int p656542, .int p656543, .int p656544, .int p656545, .ref qo656546, .int p656547, .int p656548, .int p656549, .ref q656538, .ref q656539, .int p656550]) := (hfr656696 q656536 hmq656536 nm_n).trans heq656536
    have he656708 : F656694 q656537 = .inl (I .byte, 8192, .inl f656551) := (hfr656696 q656537 hmq656537 nm_n).trans heq656537
    have he656709 : F656694 q656538 = .inl (I .int, n656553, .inl f656552) := (hfr656696 q656538 hmq656538 nm_n).trans heq656538
    have hfr656710 : rFr [] P656534 F656535 F656694 := rFr_call (rSub_rf (P := P656534)) (rFr_rf (W := []) (P := P656534) (F := F656535)) hfr656696 (fun b hb hn => ⟨nm_n, nm_n⟩)
    have tp656711 : tP I P656693 F656694 p656542 qo656546 q656539 q656538 := tP_new x656557 hsb656695 (fun b hb => hfr656696 b hb (fun z => by cases z)) (Or.inl rfl) (Or.inl rfl)
    have tp656712 : tP I P656693 F656694 p656542 qo656546 q656690 q656538 := tP_new x656557 hsb656695 (fun b hb => hfr656696 b hb (fun z => by cases z)) (Or.inr hq656700) (Or.inl rfl)
    have tp656713 : tP I P656693 F656694 p656542 qo656546 q656539 q656690 := tP_new x656557 hsb656695 (fun b hb => hfr656696 b hb (fun z => by cases z)) (Or.inl rfl) (Or.inr hq656700)
    change G _ _ _ _ _ _ _ (.ref q656690 :: _) _ _ _
    refine G_widen (cs' := 1) (sl' := z656644.toInt.toNat) (by omega) (by omega) ?_
    refine Gp_put 12 hm656701 he656707 dr_cX14_goal_26 (gk_X14 D I) (Nat.le_of_ble_eq_true rfl) wr_9_50 rfl rfl rfl (Nat.le_of_ble_eq_true rfl) (fun F656714 e656715 n656716 => ?_)
    have he656717 : F656714 q656537 = .inl (I .byte, 8192, .inl f656551) := (n656716 q656537 (rn_ao he656708 he656707)).trans he656708
    have he656718 : F656714 q656538 = .inl (I .int, n656553, .inl f656552) := (n656716 q656538 (rn_ao he656709 he656707)).trans he656709
    have he656719 : F656714 q656539 = .inl (I .int, n656555, .inl f656554) := (n656716 q656539 (rn_ao he656697 he656707)).trans he656697
    have he656720 : F656714 q656690 = .inl (I .int, z656644.toInt.toNat, .inl f656691) := (n656716 q656690 (fun h => hq656705 (h ▸ hmq656536))).trans he656698
    have he656721 : F656714 q656536 = .inr (19, [.ref q656537, .int p656540, .int p656541, .int p656542, .int p656543, .int p656544, .int p656545, .ref qo656546, .int p656547, .int p656548, .int p656549, .ref q656538, .ref q656690, .int p656550]) := e656715
    have hfr656722 : rFr [q656536] P656534 F656535 F656714 := rFr_put hfr656710 n656716
    have tp656723 : tP I P656693 F656714 p656542 qo656546 q656539 q656538 := tP_put tp656711 he656707 (by decide) n656716
    have tp656724 : tP I P656693 F656714 p656542 qo656546 q656690 q656538 := tP_put tp656712 he656707 (by decide) n656716
    have tp656725 : tP I P656693 F656714 p656542 qo656546 q656539 q656690 := tP_put tp656713 he656707 (by decide) n656716
    refine G_aload_n 0 dr_cX14_goal_29 rfl ?_
    refine G_aload_n 0 dr_cX14_goal_30 rfl ?_
    refine Gp_get 11 hm656701 he656721 dr_cX14_goal_31 (gk_X14 D I) (Nat.le_of_ble_eq_true rfl) wr_9_49 rfl ?_
    refine G_iconst 2 dr_cX14_goal_34 (by decide +kernel) ?_
    refine G_aload_n 0 dr_cX14_goal_35 rfl ?_
    refine Gp_get 13 hm656701 he656721 dr_cX14_goal_36 (gk_X14 D I) (Nat.le_of_ble_eq_true rfl) wr_9_51 rfl ?_
    refine G_imul dr_cX14_goal_39 (G_nam fun z656726 hz656726 => ?_)
    have ez656726 : z656726.toInt = 2 * p656550.toInt := by rw [gI_mul hz656726 (gBl (show Int32.toInt 2 = 2 by decide)) bp656550 (by decide) (by decide) (by decide), show Int32.toInt 2 = 2 from by decide]
    have bz656726 : gB z656726 0 2000000 := gB_mul hz656726 (gBl (show Int32.toInt 2 = 2 by decide)) bp656550 (by decide) (by decide) (by decide) (by decide)
    refine Gw_callS (As := [.ref q656538, .int z656726]) (gV_ok D I) (cp_656653_Arrays_copyOf l hl0 D I P656693 F656714 q656538 z656726 f656552 n656553 hm656703 he656718 ⟨by omega, by omega⟩ (by omega) (by omega)) dr_cX14_goal_40 ⟨wr_10_114, wr_1_30, wr_10_116, by decide, rfl, (Nat.le_of_ble_eq_true rfl), (Nat.le_of_ble_eq_true rfl)⟩ wr_10_115 (show 1 + 1 ≤ ((16 * (p656540.toInt - p656541.toInt)).toNat + 3) by first | omega | decide) (show z656644.toInt.toNat + z656726.toInt.toNat ≤ ((256 * (p656540.toInt - p656541.toInt)).toNat + 4 * n656555 + 7) by first | omega | decide) (Nat.le_of_ble_eq_true rfl) (fun r656730 w656731 dc656727 ds656728 hp656729 => ?_) (fun _ _ _ _ _ z => z.elim)
    obtain ⟨P656735, F656736, q656732, f656733, rfl, rfl, hsb656737, hfr656738, he656739, he656740, hm656741, hq656742, hdc, hds, x656734⟩ := hp656729
    have hm656743 : q656536 ∈ P656735 := hsb656737 q656536 hm656701
    have hm656744 : q656537 ∈ P656735 := hsb656737 q656537 hm656702
    have hm656745 : q656538 ∈ P656735 := hsb656737 q656538 hm656703
    have hm656746 : q656539 ∈ P656735 := hsb656737 q656539 hm656704
    have hm656747 : q656690 ∈ P656735 := hsb656737 q656690 hm656699
    have hq656748 : q656732 ∉ P656534 := fun z => hq656742 (hsb656706 q656732 z)
    have hsb656749 : rSub P656534 P656735 := rSub_tr hsb656706 hsb656737
    have he656750 : F656736 q656536 = .inr (19, [.ref q656537, .int p656540, .int p656541, .int p656542, .int p656543, .int p656544, .int p656545, .ref qo656546, .int p656547, .int p656548, .int p656549, .ref q656538, .ref q656690, .int p656550]) := (hfr656738 q656536 hm656701 nm_n).trans he656721
    have he656751 : F656736 q656537 = .inl (I .byte, 8192, .inl f656551) := (hfr656738 q656537 hm656702 nm_n).trans he656717
    have he656752 : F656736 q656539 = .inl (I .int, n656555, .inl f656554) := (hfr656738 q656539 hm656704 nm_n).trans he656719
    have he656753 : F656736 q656690 = .inl (I .int, z656644.toInt.toNat, .inl f656691) := (hfr656738 q656690 hm656699 nm_n).trans he656720
    have hfr656754 : rFr [q656536] P656534 F656535 F656736 := rFr_call hsb656706 hfr656722 hfr656738 (fun b hb hn => ⟨(nm_c (fun e => hn (e ▸ List.mem_cons_self)) nm_n), nm_n⟩)
    have tp656755 : tP I P656735 F656736 p656542 qo656546 q656539 q656538 := tP_new tp656723 hsb656737 (fun b hb => hfr656738 b hb (fun z => by cases z)) (Or.inl rfl) (Or.inl rfl)
    have tp656756 : tP I P656735 F656736 p656542 qo656546 q656732 q656538 := tP_new tp656723 hsb656737 (fun b hb => hfr656738 b hb (fun z => by cases z)) (Or.inr hq656742) (Or.inl rfl)
    have tp656757 : tP I P656735 F656736 p656542 qo656546 q656539 q656732 := tP_new tp656723 hsb656737 (fun b hb => hfr656738 b hb (fun z => by cases z)) (Or.inl rfl) (Or.inr hq656742)
    have tp656758 : tP I P656735 F656736 p656542 qo656546 q656690 q656538 := tP_new tp656724 hsb656737 (fun b hb => hfr656738 b hb (fun z => by cases z)) (Or.inl rfl) (Or.inl rfl)
    have tp656759 : tP I P656735 F656736 p656542 qo656546 q656732 q656538 := tP_new tp656724 hsb656737 (fun b hb => hfr656738 b hb (fun z => by cases z)) (Or.inr hq656742) (Or.inl rfl)
    have tp656760 : tP I P656735 F656736 p656542 qo656546 q656690 q656732 := tP_new tp656724 hsb656737 (fun b hb => hfr656738 b hb (fun z => by cases z)) (Or.inl rfl) (Or.inr hq656742)
    have tp656761 : tP I P656735 F656736 p656542 qo656546 q656539 q656690 := tP_new tp656725 hsb656737 (fun b hb => hfr656738 b hb (fun z => by cases z)) (Or.inl rfl) (Or.inl rfl)
    have tp656762 : tP I P656735 F656736 p656542 qo656546 q656732 q656690 := tP_new tp656725 hsb656737 (fun b hb => hfr656738 b hb (fun z => by cases z)) (Or.inr hq656742) (Or.inl rfl)
    have tp656763 : tP I P656735 F656736 p656542 qo656546 q656539 q656732 := tP_new tp656725 hsb656737 (fun b hb => hfr656738 b hb (fun z => by cases z)) (Or.inl rfl) (Or.inr hq656742)
    have hne656764 : q656690 ≠ q656732 := fun h => hq656742 (h ▸ hm656699)
    change G _ _ _ _ _ _ _ (.ref q656732 :: _) _ _ _
    refine G_widen (cs' := 2) (sl' := z656644.toInt.toNat + z656726.toInt.toNat) (by omega) (by omega) ?_
    refine Gp_put 11 hm656743 he656750 dr_cX14_goal_43 (gk_X14 D I) (Nat.le_of_ble_eq_true rfl) wr_9_49 rfl rfl rfl (Nat.le_of_ble_eq_true rfl) (fun F656765 e656766 n656767 => ?_)
    have he656768 : F656765 q656537 = .inl (I .byte, 8192, .inl f656551) := (n656767 q656537 (rn_ao he656751 he656750)).trans he656751
    have he656769 : F656765 q656539 = .inl (I .int, n656555, .inl f656554) := (n656767 q656539 (rn_ao he656752 he656750)).trans he656752
    have he656770 : F656765 q656690 = .inl (I .int, z656644.toInt.toNat, .inl f656691) := (n656767 q656690 (fun h => hq656705 (h ▸ hmq656536))).trans he656753
    have he656771 : F656765 q656538 = .inl (I .int, n656553, .inl f656552) := (n656767 q656538 (rn_ao he656739 he656750)).trans he656739
    have he656772 : F656765 q656732 = .inl (I .int, z656726.toInt.toNat, .inl f656733) := (n656767 q656732 (fun h => hq656748 (h ▸ hmq656536))).trans he656740
    have he656773 : F656765 q656536 = .inr (19, [.ref q656537, .int p656540, .int p656541, .int p656542, .int p656543, .int p656544, .int p656545, .ref qo656546, .int p656547, .int p656548, .int p656549, .ref q656732, .ref q656690, .int p656550]) := e656766
    have hfr656774 : rFr [q656536] P656534 F656535 F656765 := rFr_put' List.mem_cons_self hfr656754 n656767
    have tp656775 : tP I P656735 F656765 p656542 qo656546 q656539 q656538 := tP_put tp656755 he656750 (by decide) n656767
    have tp656776 : tP I P656735 F656765 p656542 qo656546 q656732 q656538 := tP_put tp656756 he656750 (by decide) n656767
    have tp656777 : tP I P656735 F656765 p656542 qo656546 q656539 q656732 := tP_put tp656757 he656750 (by decide) n656767
    have tp656778 : tP I P656735 F656765 p656542 qo656546 q656690 q656538 := tP_put tp656758 he656750 (by decide) n656767
    have tp656779 : tP I P656735 F656765 p656542 qo656546 q656732 q656538 := tP_put tp656759 he656750 (by decide) n656767
    have tp656780 : tP I P656735 F656765 p656542 qo656546 q656690 q656732 := tP_put tp656760 he656750 (by decide) n656767
    have tp656781 : tP I P656735 F656765 p656542 qo656546 q656539 q656690 := tP_put tp656761 he656750 (by decide) n656767
    have tp656782 : tP I P656735 F656765 p656542 qo656546 q656732 q656690 := tP_put tp656762 he656750 (by decide) n656767
    have tp656783 : tP I P656735 F656765 p656542 qo656546 q656539 q656732 := tP_put tp656763 he656750 (by decide) n656767
    refine G_aload_n 0 dr_cX14_goal_46 rfl ?_
    refine Gp_get 11 hm656743 he656773 dr_cX14_goal_47 (gk_X14 D I) (Nat.le_of_ble_eq_true rfl) wr_9_49 rfl ?_
    refine G_aload_n 0 dr_cX14_goal_50 rfl ?_
    refine Gp_get 13 hm656743 he656773 dr_cX14_goal_51 (gk_X14 D I) (Nat.le_of_ble_eq_true rfl) wr_9_51 rfl ?_
    refine G_aload_n 0 dr_cX14_goal_54 rfl ?_
    refine Gp_get 4 hm656743 he656773 dr_cX14_goal_55 (gk_X14 D I) (Nat.le_of_ble_eq_true rfl) wr_9_40 rfl ?_
    refine Gp_iast 0 hm656741 he656772 dr_cX14_goal_58 rfl (gB_inr (by omega) (by omega)) (fun F656784 e656785 n656786 => ?_)
    obtain ⟨f656787, hf656787⟩ : ∃ z, z = upd f656733 p656550.toNatClampNeg p656543 := ⟨_, rfl⟩
    rw [← hf656787] at e656785
    have he656788 : F656784 q656536 = .inr (19, [.ref q656537, .int p656540, .int p656541, .int p656542, .int p656543, .int p656544, .int p656545, .ref qo656546, .int p656547, .int p656548, .int p656549, .ref q656732, .ref q656690, .int p656550]) := (n656786 q656536 (fun h => hq656748 (h ▸ hmq656536))).trans he656773
    have he656789 : F656784 q656537 = .inl (I .byte, 8192, .inl f656551) := (n656786 q656537 (fun h => hq656748 (h ▸ hmq656537))).trans he656768
    have he656790 : F656784 q656539 = .inl (I .int, n656555, .inl f656554) := (n656786 q656539 (fun h => hq656748 (h ▸ hmq656539))).trans he656769
    have he656791 : F656784 q656690 = .inl (I .int, z656644.toInt.toNat, .inl f656691) := (n656786 q656690 hne656764).trans he656770
    have he656792 : F656784 q656538 = .inl (I .int, n656553, .inl f656552) := (n656786 q656538 (fun h => hq656748 (h ▸ hmq656538))).trans he656771
    have he656793 : F656784 q656732 = .inl (I .int, z656726.toInt.toNat, .inl f656787) := e656785
    have hfr656794 : rFr [q656536] P656534 F656535 F656784 := rFr_newp hq656748 hfr656774 n656786
    have tp656796 : tP I P656735 F656784 p656542 qo656546 q656732 q656538 := tP_pa tp656776 he656772 (Or.inl rfl) n656786
    have tp656797 : tP I P656735 F656784 p656542 qo656546 q656539 q656732 := tP_pa tp656777 he656772 (Or.inr rfl) n656786
    have tp656799 : tP I P656735 F656784 p656542 qo656546 q656732 q656538 := tP_pa tp656779 he656772 (Or.inl rfl) n656786
    have tp656800 : tP I P656735 F656784 p656542 qo656546 q656690 q656732 := tP_pa tp656780 he656772 (Or.inr rfl) n656786
    have tp656802 : tP I P656735 F656784 p656542 qo656546 q656732 q656690 := tP_pa tp656782 he656772 (Or.inl rfl) n656786
    have tp656803 : tP I P656735 F656784 p656542 qo656546 q656539 q656732 := tP_pa tp656783 he656772 (Or.inr rfl) n656786
    refine G_aload_n 0 dr_cX14_goal_59 rfl ?_
    refine G_iconst 3 dr_cX14_goal_60 (by decide +kernel) ?_
    refine Gw_callV (As := [.int 3]) (gV_ok D I) (cp_655795_Reader_want l hl0 D I P656735 F656784 q656536 q656537 3 p656540 p656541 p656542 p656543 p656544 p656545 qo656546 p656547 p656548 p656549 q656732 q656690 p656550 f656551 hm656743 hm656744 he656788 he656789 (gB_w (gBl (show Int32.toInt 3 = 3 by decide)) (by decide) (by decide)) bp656540 bp656541 bp656542 bp656543 bp656545 bp656547 bp656548 bp656549 bp656550 bf656551 (by omega) hm656747 hm656741 tp656800 x656558) dr_cX14_goal_61 ⟨wr_9_93, wr_1_32, wr_9_96, by decide, rfl, (Nat.le_of_ble_eq_true rfl), (Nat.le_of_ble_eq_true rfl)⟩ wr_9_95 wr_p_80 hm656743 he656788 rfl (show 2 + ((16 * (p656540.toInt - p656541.toInt)).toNat + 1) ≤ ((16 * (p656540.toInt - p656541.toInt)).toNat + 3) by first | omega | decide) (show z656644.toInt.toNat + z656726.toInt.toNat + ((256 * (p656540.toInt - p656541.toInt)).toNat + 7) ≤ ((256 * (p656540.toInt - p656541.toInt)).toNat + 4 * n656555 + 7) by first | omega | decide) (Nat.le_of_ble_eq_true rfl) (fun r656807 w656808 dc656804 ds656805 hp656806 => ?_) (fun _ qx656820 _ dc656818 ds656819 hx => by obtain ⟨P656816, F656817, rfl, rfl, hsb656809, hfr656810, hq656811, hqn656812, hwr656813, hdc656814, hds656815⟩ := hx; exact GT_outA rfl (show 2 + dc656818 ≤ ((16 * (p656540.toInt - p656541.toInt)).toNat + 3) by omega) (show z656644.toInt.toNat + z656726.toInt.toNat + ds656819 ≤ ((256 * (p656540.toInt - p656541.toInt)).toNat + 4 * n656555 + 7) by omega) ⟨P656816, F656817, rfl, rfl, (rSub_tr hsb656749 hsb656809), (rFr_v (show rFr [q656536] P656534 F656535 F656817 from rFr_call hsb656749 hfr656794 hfr656810 (fun b hb hn => ⟨(nm_c (fun e => hn (e ▸ List.mem_cons_self)) nm_n), nm_n⟩)) (fun b hn => (nm_c (fun e => hn (e ▸ (List.mem_cons_of_mem _ List.mem_cons_self))) nm_n))), hq656811, (fun z => hqn656812 (hsb656749 _ z)), hwr656813, (by omega), (by omega)⟩)
    obtain ⟨P656833, F656834, o656821, o656822, o656823, o656824, q656825, rfl, rfl, hsb656835, hfr656836, he656837, he656838, hdc, hds, bo656821, bo656822, bo656823, x656826, x656827, x656828, x656829, x656830, x656831, x656832⟩ := hp656806
    have hm656839 : q656536 ∈ P656833 := hsb656835 q656536 hm656743
    have hm656840 : q656537 ∈ P656833 := hsb656835 q656537 hm656744
    have hm656841 : q656538 ∈ P656833 := hsb656835 q656538 hm656745
    have hm656842 : q656539 ∈ P656833 := hsb656835 q656539 hm656746
    have hm656843 : q656690 ∈ P656833 := hsb656835 q656690 hm656747
    have hm656844 : q656732 ∈ P656833 := hsb656835 q656732 hm656741
    have hsb656845 : rSub P656534 P656833 := rSub_tr hsb656749 hsb656835
    have he656846 : F656834 q656539 = .inl (I .int, n656555, .inl f656554) := (hfr656836 q656539 hm656746 (nm_c (rn_ao he656790 he656788) nm_n)).trans he656790
    have he656847 : F656834 q656690 = .inl (I .int, z656644.toInt.toNat, .inl f656691) := (hfr656836 q656690 hm656747 (nm_c (fun h => hq656705 (h ▸ hmq656536)) nm_n)).trans he656791
    have he656848 : F656834 q656538 = .inl (I .int, n656553, .inl f656552) := (hfr656836 q656538 hm656745 (nm_c (rn_ao he656792 he656788) nm_n)).trans he656792
    have he656849 : F656834 q656732 = .inl (I .int, z656726.toInt.toNat, .inl f656787) := (hfr656836 q656732 hm656741 (nm_c (fun h => hq656748 (h ▸ hmq656536)) nm_n)).trans he656793
    have hfr656850 : rFr [q656536] P656534 F656535 F656834 := rFr_call hsb656749 hfr656794 hfr656836 (fun b hb hn => ⟨(nm_c (fun e => hn (e ▸ List.mem_cons_self)) nm_n), (nm_c (fun e => hn (e ▸ List.mem_cons_self)) nm_n)⟩)
    have bo656824 := gB_any o656824
    rw [show Int32.toInt 3 = 3 from by decide] at x656832
    change G _ _ _ _ _ _ _ (.int p656544 :: _) _ _ _
    refine G_widen (cs' := 2 + ((16 * (o656821.toInt - p656541.toInt)).toNat)) (sl' := z656644.toInt.toNat + z656726.toInt.toNat + ((256 * (o656821.toInt - p656541.toInt)).toNat)) (by omega) (by omega) ?_
    refine G_istore_n (L' := [(1, .int p656544), (0, .ref q656536)]) dr_cX14_goal_64 (Nat.le_of_ble_eq_true rfl) rfl ?_
    refine G_aload_n 1 dr_cX14_goal_65 rfl ?_
    refine Gp_get 12 hm656839 he656837 dr_cX14_goal_66 (gk_X14 D I) (Nat.le_of_ble_eq_true rfl) wr_9_50 rfl ?_
    refine G_aload_n 1 dr_cX14_goal_69 rfl ?_
    refine Gp_get 13 hm656839 he656837 dr_cX14_goal_70 (gk_X14 D I) (Nat.le_of_ble_eq_true rfl) wr_9_51 rfl ?_
    refine G_iload_n 0 dr_cX14_goal_73 rfl ?_
    refine Gp_iast 0 hm656843 he656847 dr_cX14_goal_74 rfl (gB_inr (by omega) (by omega)) (fun F656851 e656852 n656853 => ?_)
    obtain ⟨f656854, hf656854⟩ : ∃ z, z = upd f656691 p656550.toNatClampNeg p656544 := ⟨_, rfl⟩
    rw [← hf656854] at e656852
    have he656855 : F656851 q656539 = .inl (I .int, n656555, .inl f656554) := (n656853 q656539 (fun h => hq656705 (h ▸ hmq656539))).trans he656846
    have he656856 : F656851 q656538 = .inl (I .int, n656553, .inl f656552) := (n656853 q656538 (fun h => hq656705 (h ▸ hmq656538))).trans he656848
    have he656857 : F656851 q656732 = .inl (I .int, z656726.toInt.toNat, .inl f656787) := (n656853 q656732 (Ne.symm hne656764)).trans he656849
    have he656858 : F656851 q656536 = .inr (19, [.ref q656537, .int p656540, .int o656821, .int o656822, .int o656823, .int o656824, .int p656542, .ref q656825, .int p656547, .int p656548, .int p656549, .ref q656732, .ref q656690, .int p656550]) := (n656853 q656536 (fun h => hq656705 (h ▸ hmq656536))).trans he656837
    have he656859 : F656851 q656537 = .inl (I .byte, 8192, .inl f656551) := (n656853 q656537 (fun h => hq656705 (h ▸ hmq656537))).trans he656838
    have he656860 : F656851 q656690 = .inl (I .int, z656644.toInt.toNat, .inl f656854) := e656852
    have hfr656861 : rFr [q656536] P656534 F656535 F656851 := rFr_newp hq656705 hfr656850 n656853
    have tp656862 : tP I P656833 F656851 o656822 q656825 q656690 q656732 := tP_pa x656829 he656847 (Or.inl rfl) n656853
    refine G_aload_n 1 dr_cX14_goal_75 rfl ?_
    refine G_dup dr_cX14_goal_76 rfl ?_
    refine Gp_get 13 hm656839 he656858 dr_cX14_goal_77 (gk_X14 D I) (Nat.le_of_ble_eq_true rfl) wr_9_51 rfl ?_
    refine G_iconst 1 dr_cX14_goal_80 (by decide +kernel) ?_
    refine G_iadd dr_cX14_goal_81 (G_nam fun z656863 hz656863 => ?_)
    have ez656863 : z656863.toInt = p656550.toInt + 1 := by rw [gI_add hz656863 bp656550 (gBl (show Int32.toInt 1 = 1 by decide)) (by decide) (by decide), show Int32.toInt 1 = 1 from by decide]
    have bz656863 : gB z656863 1 1000001 := gB_add (gI_add hz656863 bp656550 (gBl (show Int32.toInt 1 = 1 by decide)) (by decide) (by decide)) bp656550 (gBl (show Int32.toInt 1 = 1 by decide)) (by decide) (by decide)
    refine Gp_put 13 hm656839 he656858 dr_cX14_goal_82 (gk_X14 D I) (Nat.le_of_ble_eq_true rfl) wr_9_51 rfl rfl rfl (Nat.le_of_ble_eq_true rfl) (fun F656864 e656865 n656866 => ?_)
    have he656867 : F656864 q656539 = .inl (I .int, n656555, .inl f656554) := (n656866 q656539 (rn_ao he656855 he656858)).trans he656855
    have he656868 : F656864 q656690 = .inl (I .int, z656644.toInt.toNat, .inl f656854) := (n656866 q656690 (fun h => hq656705 (h ▸ hmq656536))).trans he656860
    have he656869 : F656864 q656538 = .inl (I .int, n656553, .inl f656552) := (n656866 q656538 (rn_ao he656856 he656858)).trans he656856
    have he656870 : F656864 q656732 = .inl (I .int, z656726.toInt.toNat, .inl f656787) := (n656866 q656732 (fun h => hq656748 (h ▸ hmq656536))).trans he656857
    have he656871 : F656864 q656537 = .inl (I .byte, 8192, .inl f656551) := (n656866 q656537 (rn_ao he656859 he656858)).trans he656859
    have he656872 : F656864 q656536 = .inr (19, [.ref q656537, .int p656540, .int o656821, .int o656822, .int o656823, .int o656824, .int p656542, .ref q656825, .int p656547, .int p656548, .int p656549, .ref q656732, .ref q656690, .int z656863]) := e656865
    have hfr656873 : rFr [q656536] P656534 F656535 F656864 := rFr_put' List.mem_cons_self hfr656861 n656866
    have tp656874 : tP I P656833 F656864 o656822 q656825 q656690 q656732 := tP_put tp656862 he656858 (by decide) n656866
    refine G_iload_n 0 dr_cX14_goal_85 rfl ?_
    exact G_iretA dr_cX14_goal_86 rfl (show 2 + ((16 * (o656821.toInt - p656541.toInt)).toNat) ≤ ((16 * (p656540.toInt - p656541.toInt)).toNat + 3) by omega) (show z656644.toInt.toNat + z656726.toInt.toNat + ((256 * (o656821.toInt - p656541.toInt)).toNat) ≤ ((256 * (p656540.toInt - p656541.toInt)).toNat + 4 * n656555 + 7) by omega) ⟨P656833, F656864, o656821, o656822, o656823, o656824, q656825, z656863, q656732, z656726.toInt.toNat, f656787, q656690, z656644.toInt.toNat, f656854, rfl, rfl, hsb656845, (rFr_v hfr656873 (fun b hn => (nm_c (fun e => hn (e ▸ (List.mem_cons_of_mem _ (List.mem_cons_of_mem _ List.mem_cons_self)))) nm_n))), he656870, he656868, he656872, he656871, hm656844, (Or.inr hq656748), hm656843, (Or.inr hq656705), (by omega), (by omega), bo656821, bo656822, bo656823, ⟨by omega, by omega⟩, (by omega), x656827, (by omega), tp656874, x656830, x656831, (by omega), (by omega), hne656764, (by omega), (by omega), (by omega), (by omega), (by omega), (by omega)⟩
abbrev ky_656925_Reader_row : gKey := (cX14_row, 2, "SpillForgeModel$Reader", none, [], "row", fun _ _ => True)
def pp_656925_Reader_row (D : va_G) (I : FieldType → ClassId) (P656891 : List Nat) (F656892 : Nat → va_E) (q656893 : Nat) (q656894 : Nat) (q656895 : Nat) (p656896 : Int32) (p656897 : Int32) (p656898 : Int32) (p656899 : Int32) (p656900 : Int32) (p656901 : Int32) (qo656902 : Nat) (p656903 : Int32) (p656904 : Int32) (p656905 : Int32) (qo656906 : Nat) (qo656907 : Nat) (p656908 : Int32) (p656909 : Int32) (p656910 : Int32) (p656911 : Int32) (p656912 : Int32) (p656913 : Int32) (p656914 : Int32) (p656915 : Int32) (f656916 : Nat → Int32) : Option Value → va_W → Nat → Nat → Prop := fun r w dc ds => ∃ (P657354 : List Nat) (F657355 : Nat → va_E) (o657342 : Int32) (o657343 : Int32) (o657344 : Int32) (o657345 : Int32) (o657346 : Int32) (q657347 : Nat) (o657348 : Int32) (o657349 : Int32) (o657350 : Int32) (o657351 : Int32) (o657352 : Int32) (o657353 : Int32), r = none ∧ w = va_pl P657354 F657355 ∧ rSub P656891 P657354 ∧ rFr [q656894, q656893] P656891 F656892 F657355 ∧ F657355 q656894 = .inr (20, [.int o657348, .int o657349, .int o657350, .int o657351, .int p656913, .int o657352, .int o657353]) ∧ F657355 q656893 = .inr (19, [.ref q656895, .int p656896, .int o657342, .int o657343, .int o657344, .int o657345, .int o657346, .ref q657347, .int p656903, .int p656904, .int p656905, .ref qo656906, .ref qo656907, .int p656908]) ∧ F657355 q656895 = .inl (I .byte, 8192, .inl f656916) ∧ dc ≤ (16 * (o657342.toInt - p656897.toInt)).toNat + 8 ∧ ds ≤ (256 * (o657342.toInt - p656897.toInt)).toNat + 64 ∧ gB o657342 0 8192 ∧ gB o657343 0 6 ∧ gB o657344 0 8192 ∧ gB o657346 0 6 ∧ gB o657348 0 22 ∧ gB o657349 0 1999 ∧ gB o657352 0 1 ∧ gB o657353 0 1 ∧ p656897.toInt ≤ o657342.toInt ∧ prP o657343 p656897 o657342 ∧ o657342.toInt ≤ p656896.toInt ∧ tP I P657354 F657355 o657343 q657347 qo656907 qo656906 ∧ vP o657343 o657345 ∧ rwP o657352 o657350 ∧ rwP o657353 o657351 ∧ opP o657348
def xp_656925_Reader_row (D : va_G) (I : FieldType → ClassId) (P656891 : List Nat) (F656892 : Nat → va_E) (q656893 : Nat) (q656894 : Nat) (q656895 : Nat) (p656896 : Int32) (p656897 : Int32) (p656898 : Int32) (p656899 : Int32) (p656900 : Int32) (p656901 : Int32) (qo656902 : Nat) (p656903 : Int32) (p656904 : Int32) (p656905 : Int32) (qo656906 : Nat) (qo656907 : Nat) (p656908 : Int32) (p656909 : Int32) (p656910 : Int32) (p656911 : Int32) (p656912 : Int32) (p656913 : Int32) (p656914 : Int32) (p656915 : Int32) (f656916 : Nat → Int32) : String → Nat → va_W → Nat → Nat → Prop := fun E q w dc ds => ∃ (P657357 : List Nat) (F657356 : Nat → va_E), E = "SpillForgeModel$Wrong" ∧ w = va_pl P657357 F657356 ∧ rSub P656891 P657357 ∧ rFr [q656894, q656893] P656891 F656892 F657356 ∧ q ∈ P657357 ∧ q ∉ P656891 ∧ wrF F657356 q ∧ dc ≤ (16 * (p656896.toInt - p656897.toInt)).toNat + 9 ∧ ds ≤ (256 * (p656896.toInt - p656897.toInt)).toNat + 71 ∧ rkR (F657356 q656894)
set_option maxRecDepth 100000 in
set_option maxHeartbeats 4000000 in
theorem cp_656925_Reader_row (l : Launch) (hl0 : l.stackTraces = false) (D : va_G) (I : FieldType → ClassId) (P656891 : List Nat) (F656892 : Nat → va_E) (q656893 : Nat) (q656894 : Nat) (q656895 : Nat) (p656896 : Int32) (p656897 : Int32) (p656898 : Int32) (p656899 : Int32) (p656900 : Int32) (p656901 : Int32) (qo656902 : Nat) (p656903 : Int32) (p656904 : Int32) (p656905 : Int32) (qo656906 : Nat) (qo656907 : Nat) (p656908 : Int32) (p656909 : Int32) (p656910 : Int32) (p656911 : Int32) (p656912 : Int32) (p656913 : Int32) (p656914 : Int32) (p656915 : Int32) (f656916 : Nat → Int32) (hmq656893 : q656893 ∈ P656891) (hmq656894 : q656894 ∈ P656891) (hmq656895 : q656895 ∈ P656891) (heq656893 : F656892 q656893 = .inr (19, [.ref q656895, .int p656896, .int p656897, .int p656898, .int p656899, .int p656900, .int p656901, .ref qo656902, .int p656903, .int p656904, .int p656905, .ref qo656906, .ref qo656907, .int p656908])) (heq656894 : F656892 q656894 = .inr (20, [.int p656909, .int p656910, .int p656911, .int p656912, .int p656913, .int p656914, .int p656915])) (heq656895 : F656892 q656895 = .inl (I .byte, 8192, .inl f656916)) (bp656896 : gB p656896 0 8192) (bp656897 : gB p656897 0 8192) (bp656898 : gB p656898 0 6) (bp656899 : gB p656899 0 8192) (bp656901 : gB p656901 0 6) (bp656903 : gB p656903 (-1) 8192) (bp656904 : gB p656904 0 4) (bp656905 : gB p656905 0 1000000) (bp656908 : gB p656908 0 1000000) (bp656909 : gB p656909 0 32) (bp656910 : gB p656910 0 1999) (bp656913 : gB p656913 0 1999) (bp656914 : gB p656914 0 1) (bp656915 : gB p656915 0 1) (bf656916 : gF f656916 (-128) 127) (x656917 : p656897.toInt ≤ p656896.toInt) (x656918 : qo656907 ∈ P656891) (x656919 : qo656906 ∈ P656891) (x656920 : tP I P656891 F656892 p656898 qo656902 qo656907 qo656906) (x656921 : vP p656898 p656900) (x656922 : rwP p656914 p656911) (x656923 : rwP p656915 p656912) (x656924 : opP p656909) : CtA (gV D I) l yX14_row cX14_row 2 none 9 200 ((16 * (p656896.toInt - p656897.toInt)).toNat + 9) ((256 * (p656896.toInt - p656897.toInt)).toNat + 71) [.ref q656893, .ref q656894] (va_pl P656891 F656892) (pp_656925_Reader_row D I P656891 F656892 q656893 q656894 q656895 p656896 p656897 p656898 p656899 p656900 p656901 qo656902 p656903 p656904 p656905 qo656906 qo656907 p656908 p656909 p656910 p656911 p656912 p656913 p656914 p656915 f656916) (xp_656925_Reader_row D I P656891 F656892 q656893 q656894 q656895 p656896 p656897 p656898 p656899 p656900 p656901 qo656902 p656903 p656904 p656905 qo656906 qo656907 p656908 p656909 p656910 p656911 p656912 p656913 p656914 p656915 f656916) := by
  refine CtA_of hl0 (by decide) (Nat.le_of_ble_eq_true rfl) ?_
  have bp656900 := gB_any p656900
  have bp656911 := gB_any p656911
  have bp656912 := gB_any p656912
  refine G_aload_n 0 dr_cX14_row_0 rfl ?_
  refine G_ldcK (a := D.2 1000 39) dr_cX14_row_1 (fun _ _ _ h => gx_vk 39 rfl rfl h) ?_
  have hl39_656925 : (sb_39.length : Int) = 4 := rfl
  refine Gw_callV (As := [.ref (D.2 1000 39)]) (gV_ok D I) (cp_655625_Reader_is l hl0 D I P656891 F656892 q656893 q656895 (D.2 1000 39) (D.2 1001 39) sb_39 p656896 p656897 p656898 p656899 p656900 p656901 qo656902 p656903 p656904 p656905 qo656906 qo656907 p656908 f656916 hmq656893 hmq656895 heq656893 heq656895 (gx_sc 39 rfl rfl) (by omega) (by decide +kernel) bp656896 bp656897 bp656898 bp656899 bp656901 bp656903 bp656904 bp656905 bp656908 bf656916 x656920) dr_cX14_row_3 ⟨wr_9_141, wr_1_32, wr_9_144, by decide, rfl, (Nat.le_of_ble_eq_true rfl), (Nat.le_of_ble_eq_true rfl)⟩ wr_9_143 wr_p_84 hmq656893 heq656893 rfl (show 0 + 0 ≤ ((16 * (p656896.toInt - p656897.toInt)).toNat + 9) by first | omega | decide) (show 0 + 0 ≤ ((256 * (p656896.toInt - p656897.toInt)).toNat + 71) by first | omega | decide) (Nat.le_of_ble_eq_true rfl) (fun r656930 w656931 dc656927 ds656928 hp656929 => ?_) (fun _ _ _ _ _ z => z.elim)
  obtain ⟨o656932, rfl, rfl, hdc, hds, bo656932⟩ := hp656929
  change G _ _ _ _ _ _ _ (.int o656932 :: _) _ _ _
  refine G_widen (cs' := 0) (sl' := 0) (by omega) (by omega) ?_
  refine G_if_eq 26 dr_cX14_row_6 (by decide +kernel) (fun hc656933 => ?_) (fun hc656933 => ?_)
  · have r656934 : o656932.toInt = 0 := gj_eq hc656933 (show Int32.toInt 0 = 0 by decide)
    have bo656932' : gB o656932 0 0 := ⟨by omega, by omega⟩
    refine G_aload_n 1 dr_cX14_row_26 rfl ?_
    refine G_aload_n 0 dr_cX14_row_27 rfl ?_
    refine G_iconst 2 dr_cX14_row_28 (by decide +kernel) ?_
    refine Gw_callV (As := [.int 2]) (gV_ok D I) (cp_655795_Reader_want l hl0 D I P656891 F656892 q656893 q656895 2 p656896 p656897 p656898 p656899 p656900 p656901 qo656902 p656903 p656904 p656905 qo656906 qo656907 p656908 f656916 hmq656893 hmq656895 heq656893 heq656895 (gB_w (gBl (show Int32.toInt 2 = 2 by decide)) (by decide) (by decide)) bp656896 bp656897 bp656898 bp656899 bp656901 bp656903 bp656904 bp656905 bp656908 bf656916 (by omega) x656918 x656919 x656920 x656921) dr_cX14_row_29 ⟨wr_9_93, wr_1_32, wr_9_96, by decide, rfl, (Nat.le_of_ble_eq_true rfl), (Nat.le_of_ble_eq_true rfl)⟩ wr_9_95 wr_p_80 hmq656893 heq656893 rfl (show 0 + ((16 * (p656896.toInt - p656897.toInt)).toNat + 1) ≤ ((16 * (p656896.toInt - p656897.toInt)).toNat + 9) by first | omega | decide) (show 0 + ((256 * (p656896.toInt - p656897.toInt)).toNat + 7) ≤ ((256 * (p656896.toInt - p656897.toInt)).toNat + 71) by first | omega | decide) (Nat.le_of_ble_eq_true rfl) (fun r656938 w656939 dc656935 ds656936 hp656937 => ?_) (fun _ qx656951 _ dc656949 ds656950 hx => by obtain ⟨P656947, F656948, rfl, rfl, hsb656940, hfr656941, hq656942, hqn656943, hwr656944, hdc656945, hds656946⟩ := hx; exact GT_outA rfl (show 0 + dc656949 ≤ ((16 * (p656896.toInt - p656897.toInt)).toNat + 9) by omega) (show 0 + ds656950 ≤ ((256 * (p656896.toInt - p656897.toInt)).toNat + 71) by omega) ⟨P656947, F656948, rfl, rfl, (rSub_tr (rSub_rf (P := P656891)) hsb656940), (rFr_v (show rFr [] P656891 F656892 F656948 from rFr_call (rSub_rf (P := P656891)) (rFr_rf (W := []) (P := P656891) (F := F656892)) hfr656941 (fun b hb hn => ⟨nm_n, nm_n⟩)) (fun b hn => nm_n)), hq656942, (fun z => hqn656943 ((rSub_rf (P := P656891)) _ z)), hwr656944, (by omega), (by omega), ⟨p656909, p656910, p656911, p656912, p656913, p656914, p656915, ((hfr656941 q656894 hmq656894 nm_n).trans heq656894), bp656909, bp656910, bp656913, bp656914, bp656915, x656924, x656922, x656923⟩⟩)
    obtain ⟨P656964, F656965, o656952, o656953, o656954, o656955, q656956, rfl, rfl, hsb656966, hfr656967, he656968, he656969, hdc, hds, bo656952, bo656953, bo656954, x656957, x656958, x656959, x656960, x656961, x656962, x656963⟩ := hp656937
    have hm656970 : q656893 ∈ P656964 := hsb656966 q656893 hmq656893
    have hm656971 : q656894 ∈ P656964 := hsb656966 q656894 hmq656894
    have hm656972 : q656895 ∈ P656964 := hsb656966 q656895 hmq656895
    have hsb656973 : rSub P656891 P656964 := rSub_tr (rSub_rf (P := P656891)) hsb656966
    have he656974 : F656965 q656894 = .inr (20, [.int p656909, .int p656910, .int p656911, .int p656912, .int p656913, .int p656914, .int p656915]) := (hfr656967 q656894 hmq656894 (nm_c (rn_oo heq656894 heq656893 (by decide)) nm_n)).trans heq656894
    have hfr656975 : rFr [q656893] P656891 F656892 F656965 := rFr_call (rSub_rf (P := P656891)) (rFr_rf (W := []) (P := P656891) (F := F656892)) hfr656967 (fun b hb hn => ⟨nm_n, (nm_c (fun e => hn (e ▸ List.mem_cons_self)) nm_n)⟩)
    have bo656955 := gB_any o656955
    rw [show Int32.toInt 2 = 2 from by decide] at x656963
    change G _ _ _ _ _ _ _ (.int p656900 :: _) _ _ _
    refine G_widen (cs' := (16 * (o656952.toInt - p656897.toInt)).toNat) (sl' := (256 * (o656952.toInt - p656897.toInt)).toNat) (by omega) (by omega) ?_
    have bv656976 : gB p656900 0 99 := vP_g2 x656962
    have x656977 : p656897.toInt ≤ o656952.toInt := by omega
    refine G_widen (cs' := (16 * (o656952.toInt - p656897.toInt) + 0 : Int).toNat) (sl' := (256 * (o656952.toInt - p656897.toInt) + 0 : Int).toNat) (by omega) (by omega) ?_
    refine Gp_put 1 hm656971 he656974 dr_cX14_row_32 (gk_X15 D I) (Nat.le_of_ble_eq_true rfl) wr_9_183 rfl rfl rfl (Nat.le_of_ble_eq_true rfl) (fun F656978 e656979 n656980 => ?_)
    have he656981 : F656978 q656893 = .inr (19, [.ref q656895, .int p656896, .int o656952, .int o656953, .int o656954, .int o656955, .int p656898, .ref q656956, .int p656903, .int p656904, .int p656905, .ref qo656906, .ref qo656907, .int p656908]) := (n656980 q656893 (rn_oo he656968 he656974 (by decide))).trans he656968
    have he656982 : F656978 q656895 = .inl (I .byte, 8192, .inl f656916) := (n656980 q656895 (rn_ao he656969 he656974)).trans he656969
    have he656983 : F656978 q656894 = .inr (20, [.int p656909, .int p656900, .int p656911, .int p656912, .int p656913, .int p656914, .int p656915]) := e656979
    have hfr656984 : rFr [q656894, q656893] P656891 F656892 F656978 := rFr_put hfr656975 n656980
    have tp656985 : tP I P656964 F656978 o656953 q656956 qo656907 qo656906 := tP_put x656960 he656974 (by decide) n656980
    clear bo656932 bo656932' hsb656966 hfr656967 he656968 he656969 he656974 hfr656975; try clear r656930; try clear w656931; try clear dc656927; try clear ds656928; try clear hp656929; try clear r656934; try clear r656938; try clear w656939; try clear dc656935; try clear ds656936; try clear hp656937
    refine G_aload_n 0 dr_cX14_row_35 rfl ?_
    refine G_ldcK (a := D.2 1000 40) dr_cX14_row_36 (fun _ _ _ h => gx_vk 40 rfl rfl h) ?_
    have hl40_656985 : (sb_40.length : Int) = 1 := rfl
    refine Gw_callV (As := [.ref (D.2 1000 40)]) (gV_ok D I) (cp_655706_Reader_want l hl0 D I P656964 F656978 q656893 q656895 (D.2 1000 40) (D.2 1001 40) sb_40 p656896 o656952 o656953 o656954 o656955 p656898 q656956 p656903 p656904 p656905 qo656906 qo656907 p656908 f656916 hm656970 hm656972 he656981 he656982 (gx_sc 40 rfl rfl) (by omega) (by decide +kernel) bp656896 bo656952 bo656953 bo656954 bp656898 bp656903 bp656904 bp656905 bp656908 bf656916 (by omega) (hsb656973 _ x656918) (hsb656973 _ x656919) tp656985) dr_cX14_row_38 ⟨wr_9_137, wr_1_32, wr_9_140, by decide, rfl, (Nat.le_of_ble_eq_true rfl), (Nat.le_of_ble_eq_true rfl)⟩ wr_9_139 wr_p_83 hm656970 he656981 rfl (show (16 * (o656952.toInt - p656897.toInt) + 0 : Int).toNat + ((16 * (p656896.toInt - o656952.toInt)).toNat + 1) ≤ ((16 * (p656896.toInt - p656897.toInt)).toNat + 9) by first | omega | decide) (show (256 * (o656952.toInt - p656897.toInt) + 0 : Int).toNat + ((256 * (p656896.toInt - o656952.toInt)).toNat + 7) ≤ ((256 * (p656896.toInt - p656897.toInt)).toNat + 71) by first | omega | decide) (Nat.le_of_ble_eq_true rfl) (fun r656990 w656991 dc656987 ds656988 hp656989 => ?_) (fun _ qx657003 _ dc657001 ds657002 hx => by obtain ⟨P656999, F657000, rfl, rfl, hsb656992, hfr656993, hq656994, hqn656995, hwr656996, hdc656997, hds656998⟩ := hx; exact GT_outA rfl (show (16 * (o656952.toInt - p656897.toInt) + 0 : Int).toNat + dc657001 ≤ ((16 * (p656896.toInt - p656897.toInt)).toNat + 9) by omega) (show (256 * (o656952.toInt - p656897.toInt) + 0 : Int).toNat + ds657002 ≤ ((256 * (p656896.toInt - p656897.toInt)).toNat + 71) by omega) ⟨P656999, F657000, rfl, rfl, (rSub_tr hsb656973 hsb656992), (show rFr [q656894, q656893] P656891 F656892 F657000 from rFr_call hsb656973 hfr656984 hfr656993 (fun b hb hn => ⟨(nm_c (fun e => hn (e ▸ List.mem_cons_self)) (nm_c (fun e => hn (e ▸ (List.mem_cons_of_mem _ List.mem_cons_self))) nm_n)), nm_n⟩)), hq656994, (fun z => hqn656995 (hsb656973 _ z)), hwr656996, (by omega), (by omega), ⟨p656909, p656900, p656911, p656912, p656913, p656914, p656915, ((hfr656993 q656894 hm656971 nm_n).trans he656983), bp656909, (gB_w bv656976 (by decide) (by decide)), bp656913, bp656914, bp656915, x656924, x656922, x656923⟩⟩)
    obtain ⟨P657014, F657015, o657004, o657005, o657006, o657007, q657008, rfl, rfl, hsb657016, hfr657017, he657018, he657019, hdc, hds, bo657004, bo657005, bo657006, x657009, x657010, x657011, x657012, x657013⟩ := hp656989
    have hm657020 : q656893 ∈ P657014 := hsb657016 q656893 hm656970
    have hm657021 : q656894 ∈ P657014 := hsb657016 q656894 hm656971
    have hm657022 : q656895 ∈ P657014 := hsb657016 q656895 hm656972
    have hsb657023 : rSub P656891 P657014 := rSub_tr hsb656973 hsb657016
    have he657024 : F657015 q656894 = .inr (20, [.int p656909, .int p656900, .int p656911, .int p656912, .int p656913, .int p656914, .int p656915]) := (hfr657017 q656894 hm656971 (nm_c (rn_oo he656983 he656981 (by decide)) nm_n)).trans he656983
    have hfr657025 : rFr [q656894, q656893] P656891 F656892 F657015 := rFr_call hsb656973 hfr656984 hfr657017 (fun b hb hn => ⟨(nm_c (fun e => hn (e ▸ List.mem_cons_self)) (nm_c (fun e => hn (e ▸ (List.mem_cons_of_mem _ List.mem_cons_self))) nm_n)), (nm_c (fun e => hn (e ▸ (List.mem_cons_of_mem _ List.mem_cons_self))) nm_n)⟩)
    have bo657007 := gB_any o657007
    change G _ _ _ _ _ _ _ _ _ _ _
    refine G_widen (cs' := (16 * (o656952.toInt - p656897.toInt) + 0 : Int).toNat + ((16 * (o657004.toInt - o656952.toInt)).toNat)) (sl' := (256 * (o656952.toInt - p656897.toInt) + 0 : Int).toNat + ((256 * (o657004.toInt - o656952.toInt)).toNat)) (by omega) (by omega) ?_
    have x657026 : p656897.toInt ≤ o657004.toInt := by omega
    refine G_widen (cs' := (16 * (o657004.toInt - p656897.toInt) + 0 : Int).toNat) (sl' := (256 * (o657004.toInt - p656897.toInt) + 0 : Int).toNat) (by omega) (by omega) ?_
    clear bo656954 hm656970 hm656971 hm656972 hsb656973 he656981 he656982 he656983 hfr656984 hsb657016 hfr657017; try clear r656990; try clear w656991; try clear dc656987; try clear ds656988; try clear hp656989
    refine G_aload_n 0 dr_cX14_row_41 rfl ?_
    refine G_ldcK (a := D.2 1000 41) dr_cX14_row_42 (fun _ _ _ h => gx_vk 41 rfl rfl h) ?_
    have hl41_657026 : (sb_41.length : Int) = 2 := rfl
    refine Gw_callV (As := [.ref (D.2 1000 41)]) (gV_ok D I) (cp_655625_Reader_is l hl0 D I P657014 F657015 q656893 q656895 (D.2 1000 41) (D.2 1001 41) sb_41 p656896 o657004 o657005 o657006 o657007 o656953 q657008 p656903 p656904 p656905 qo656906 qo656907 p656908 f656916 hm657020 hm657022 he657018 he657019 (gx_sc 41 rfl rfl) (by omega) (by decide +kernel) bp656896 bo657004 bo657005 bo657006 bo656953 bp656903 bp656904 bp656905 bp656908 bf656916 x657012) dr_cX14_row_44 ⟨wr_9_141, wr_1_32, wr_9_144, by decide, rfl, (Nat.le_of_ble_eq_true rfl), (Nat.le_of_ble_eq_true rfl)⟩ wr_9_143 wr_p_84 hm657020 he657018 rfl (show (16 * (o657004.toInt - p656897.toInt) + 0 : Int).toNat + 0 ≤ ((16 * (p656896.toInt - p656897.toInt)).toNat + 9) by first | omega | decide) (show (256 * (o657004.toInt - p656897.toInt) + 0 : Int).toNat + 0 ≤ ((256 * (p656896.toInt - p656897.toInt)).toNat + 71) by first | omega | decide) (Nat.le_of_ble_eq_true rfl) (fun r657031 w657032 dc657028 ds657029 hp657030 => ?_) (fun _ _ _ _ _ z => z.elim)
    obtain ⟨o657033, rfl, rfl, hdc, hds, bo657033⟩ := hp657030
    change G _ _ _ _ _ _ _ (.int o657033 :: _) _ _ _
    refine G_widen (cs' := (16 * (o657004.toInt - p656897.toInt) + 0 : Int).toNat + 0) (sl' := (256 * (o657004.toInt - p656897.toInt) + 0 : Int).toNat + 0) (by omega) (by omega) ?_
    refine G_if_eq 61 dr_cX14_row_47 (by decide +kernel) (fun hc657034 => ?_) (fun hc657034 => ?_)
    · have r657035 : o657033.toInt = 0 := gj_eq hc657034 (show Int32.toInt 0 = 0 by decide)
      have bo657033' : gB o657033 0 0 := ⟨by omega, by omega⟩
      refine G_aload_n 0 dr_cX14_row_61 rfl ?_
      refine G_aload_n 1 dr_cX14_row_62 rfl ?_
      refine G_iconst 0 dr_cX14_row_63 (by decide +kernel) ?_
      refine Gw_callV (As := [.ref q656894, .int 0]) (gV_ok D I) (cp_655962_Reader_operand l hl0 D I P657014 F657015 q656893 q656894 q656895 0 p656896 o657004 o657005 o657006 o657007 o656953 q657008 p656903 p656904 p656905 qo656906 qo656907 p656908 p656909 p656900 p656911 p656912 p656913 p656914 p656915 f656916 hm657020 hm657021 hm657022 he657018 he657024 he657019 (gB_w (gBl (show Int32.toInt 0 = 0 by decide)) (by decide) (by decide)) bp656896 bo657004 bo657005 bo657006 bo656953 bp656903 bp656904 bp656905 bp656908 bp656909 (gB_w bv656976 (by decide) (by decide)) bp656913 bp656914 bp656915 bf656916 (by omega) (hsb657023 _ x656918) (hsb657023 _ x656919) x657012 x657013 x656922 x656923 x656924) dr_cX14_row_64 ⟨wr_10_89, wr_1_32, wr_10_92, by decide, rfl, (Nat.le_of_ble_eq_true rfl), (Nat.le_of_ble_eq_true rfl)⟩ wr_10_91 wr_p_89 hm657020 he657018 rfl (show (16 * (o657004.toInt - p656897.toInt) + 0 : Int).toNat + 0 + ((16 * (p656896.toInt - o657004.toInt)).toNat + 1) ≤ ((16 * (p656896.toInt - p656897.toInt)).toNat + 9) by first | omega | decide) (show (256 * (o657004.toInt - p656897.toInt) + 0 : Int).toNat + 0 + ((256 * (p656896.toInt - o657004.toInt)).toNat + 7) ≤ ((256 * (p656896.toInt - p656897.toInt)).toNat + 71) by first | omega | decide) (Nat.le_of_ble_eq_true rfl) (fun r657039 w657040 dc657036 ds657037 hp657038 => ?_) (fun _ qx657052 _ dc657050 ds657051 hx => by obtain ⟨P657048, F657049, rfl, rfl, hsb657041, hfr657042, hq657043, hqn657044, hwr657045, hdc657046, hds657047, x657053⟩ := hx; exact GT_outA rfl (show (16 * (o657004.toInt - p656897.toInt) + 0 : Int).toNat + 0 + dc657050 ≤ ((16 * (p656896.toInt - p656897.toInt)).toNat + 9) by omega) (show (256 * (o657004.toInt - p656897.toInt) + 0 : Int).toNat + 0 + ds657051 ≤ ((256 * (p656896.toInt - p656897.toInt)).toNat + 71) by omega) ⟨P657048, F657049, rfl, rfl, (rSub_tr hsb657023 hsb657041), (show rFr [q656894, q656893] P656891 F656892 F657049 from rFr_call hsb657023 hfr657025 hfr657042 (fun b hb hn => ⟨(nm_c (fun e => hn (e ▸ List.mem_cons_self)) (nm_c (fun e => hn (e ▸ (List.mem_cons_of_mem _ List.mem_cons_self))) nm_n)), nm_n⟩)), hq657043, (fun z => hqn657044 (hsb657023 _ z)), hwr657045, (by omega), (by omega), ⟨p656909, p656900, p656911, p656912, p656913, p656914, p656915, ((hfr657042 q656894 hm657021 nm_n).trans he657024), bp656909, (gB_w bv656976 (by decide) (by decide)), bp656913, bp656914, bp656915, x656924, x656922, x656923⟩⟩)
      obtain ⟨P657070, F657071, o657054, o657055, o657056, o657057, q657058, o657059, o657060, o657061, o657062, rfl, rfl, hsb657072, hfr657073, he657074, he657075, he657076, hdc, hds, bo657054, bo657055, bo657056, bo657061, bo657062, x657063, x657064, x657065, x657066, x657067, x657068, x657069⟩ := hp657038
      have hm657077 : q656893 ∈ P657070 := hsb657072 q656893 hm657020
      have hm657078 : q656894 ∈ P657070 := hsb657072 q656894 hm657021
      have hm657079 : q656895 ∈ P657070 := hsb657072 q656895 hm657022
      have hsb657080 : rSub P656891 P657070 := rSub_tr hsb657023 hsb657072
      have hfr657081 : rFr [q656894, q656893] P656891 F656892 F657071 := rFr_call hsb657023 hfr657025 hfr657073 (fun b hb hn => ⟨(nm_c (fun e => hn (e ▸ List.mem_cons_self)) (nm_c (fun e => hn (e ▸ (List.mem_cons_of_mem _ List.mem_cons_self))) nm_n)), (nm_c (fun e => hn (e ▸ List.mem_cons_self)) (nm_c (fun e => hn (e ▸ (List.mem_cons_of_mem _ List.mem_cons_self))) nm_n))⟩)
      have bo657057 := gB_any o657057
      have bo657059 := gB_any o657059
      have bo657060 := gB_any o657060
      change G _ _ _ _ _ _ _ _ _ _ _
      refine G_widen (cs' := (16 * (o657004.toInt - p656897.toInt) + 0 : Int).toNat + 0 + ((16 * (o657054.toInt - o657004.toInt)).toNat)) (sl' := (256 * (o657004.toInt - p656897.toInt) + 0 : Int).toNat + 0 + ((256 * (o657054.toInt - o657004.toInt)).toNat)) (by omega) (by omega) ?_
      have x657082 : p656897.toInt ≤ o657054.toInt := by omega
      refine G_widen (cs' := (16 * (o657054.toInt - p656897.toInt) + 0 : Int).toNat) (sl' := (256 * (o657054.toInt - p656897.toInt) + 0 : Int).toNat) (by omega) (by omega) ?_
      clear he657018 he657019 bo657006 hm657020 hm657021 hm657022 hsb657023 he657024 hfr657025 bo657033 bo657033' hsb657072 hfr657073; try clear r657031; try clear w657032; try clear dc657028; try clear ds657029; try clear hp657030; try clear r657035; try clear r657039; try clear w657040; try clear dc657036; try clear ds657037; try clear hp657038
      refine G_aload_n 1 dr_cX14_row_67 rfl ?_
      refine G_aload_n 0 dr_cX14_row_68 rfl ?_
      refine Gp_get 3 hm657077 he657075 dr_cX14_row_69 (gk_X14 D I) (Nat.le_of_ble_eq_true rfl) wr_9_39 rfl ?_
      refine G_iconst 5 dr_cX14_row_72 (by decide +kernel) ?_
      refine G_icmp_ne 86 dr_cX14_row_73 (by decide +kernel) (fun hc657083 => ?_) (fun hc657083 => ?_)
      · have r657084 : o657055.toInt ≠ 5 := gj_neq hc657083 (show Int32.toInt 5 = 5 by decide)
        refine G_widen (cs' := (16 * (o657054.toInt - p656897.toInt) + 8 : Int).toNat) (sl' := (256 * (o657054.toInt - p656897.toInt) + 64 : Int).toNat) (by omega) (by omega) ?_
        refine G_iconst 0 dr_cX14_row_86 (by decide +kernel) ?_
        refine Gp_put 0 hm657078 he657074 dr_cX14_row_87 (gk_X15 D I) (Nat.le_of_ble_eq_true rfl) wr_9_179 rfl rfl rfl (Nat.le_of_ble_eq_true rfl) (fun F657085 e657086 n657087 => ?_)
        have he657088 : F657085 q656893 = .inr (19, [.ref q656895, .int p656896, .int o657054, .int o657055, .int o657056, .int o657057, .int o657005, .ref q657058, .int p656903, .int p656904, .int p656905, .ref qo656906, .ref qo656907, .int p656908]) := (n657087 q656893 (rn_oo he657075 he657074 (by decide))).trans he657075
        have he657089 : F657085 q656895 = .inl (I .byte, 8192, .inl f656916) := (n657087 q656895 (rn_ao he657076 he657074)).trans he657076
        have he657090 : F657085 q656894 = .inr (20, [.int 0, .int p656900, .int o657059, .int o657060, .int p656913, .int o657061, .int o657062]) := e657086
        have hfr657091 : rFr [q656894, q656893] P656891 F656892 F657085 := rFr_put' List.mem_cons_self hfr657081 n657087
        have tp657092 : tP I P657070 F657085 o657055 q657058 qo656907 qo656906 := tP_put x657066 he657074 (by decide) n657087
        clear he657074 he657075 he657076 hfr657081
        refine G_aload_n 1 dr_cX14_row_90 rfl ?_
        refine Gp_get 0 hm657078 he657090 dr_cX14_row_91 (gk_X15 D I) (Nat.le_of_ble_eq_true rfl) wr_9_179 rfl ?_
        refine G_if_ne 98 dr_cX14_row_94 (by decide +kernel) (fun hc => absurd hc (by decide)) (fun _ => ?_)
        exact G_vretA dr_cX14_row_97 rfl (show (16 * (o657054.toInt - p656897.toInt) + 8 : Int).toNat ≤ ((16 * (p656896.toInt - p656897.toInt)).toNat + 9) by omega) (show (256 * (o657054.toInt - p656897.toInt) + 64 : Int).toNat ≤ ((256 * (p656896.toInt - p656897.toInt)).toNat + 71) by omega) ⟨P657070, F657085, o657054, o657055, o657056, o657057, o657005, q657058, 0, p656900, o657059, o657060, o657061, o657062, rfl, rfl, hsb657080, hfr657091, he657090, he657088, he657089, (by omega), (by omega), bo657054, bo657055, bo657056, bo657005, (gB_w (gBl (show Int32.toInt 0 = 0 by decide)) (by decide) (by decide)), (gB_w bv656976 (by decide) (by decide)), bo657061, bo657062, (by have qa0 : Int32.toInt 0 = 0 := (by decide); omega), (prP_le x657064 (by omega)), (by have qa0 : Int32.toInt 0 = 0 := (by decide); omega), tp657092, x657067, x657068, x657069, (Or.inl (by decide))⟩
      · have r657093 : o657055.toInt = 5 := gj_eq hc657083 (show Int32.toInt 5 = 5 by decide)
        have bo657055' : gB o657055 5 5 := ⟨by omega, by omega⟩
        refine G_aload_n 0 dr_cX14_row_76 rfl ?_
        refine Gp_get 7 hm657077 he657075 dr_cX14_row_77 (gk_X14 D I) (Nat.le_of_ble_eq_true rfl) wr_9_43 rfl ?_
        obtain ⟨q657094, n657095, f657096, p657097, p657098, hm657099, he657100, hm657101, he657102, bf657096, x657103, bp657098, hg657104, hg657105⟩ := x657066.2 (by omega)
        have bp657097 := gB_any p657097
        refine Gw_callSN (As := [.ref q657058]) (gV_ok D I) (cp_656193_SpillForgeModel_operation l hl0 D I P657070 F657071 q657058 q657094 p657097 p657098 f657096 n657095 hm657099 hm657101 he657100 he657102 bp657098 bf657096 (by have qa0 : Int32.toInt 0 = 0 := (by decide); omega) (by have qa0 : Int32.toInt 0 = 0 := (by decide); omega)) dr_cX14_row_80 ⟨(fun _ _ _ h => gn_w 81 rfl h), wr_1_14, wr_10_97, by decide, rfl, (Nat.le_of_ble_eq_true rfl), (Nat.le_of_ble_eq_true rfl)⟩ wr_10_96 (show (16 * (o657054.toInt - p656897.toInt) + 0 : Int).toNat + 8 ≤ ((16 * (p656896.toInt - p656897.toInt)).toNat + 9) by first | omega | decide) (show (256 * (o657054.toInt - p656897.toInt) + 0 : Int).toNat + 64 ≤ ((256 * (p656896.toInt - p656897.toInt)).toNat + 71) by first | omega | decide) (Nat.le_of_ble_eq_true rfl) (fun r657109 w657110 dc657106 ds657107 hp657108 => ?_)
        obtain ⟨P657114, F657115, o657111, rfl, rfl, hsb657116, hfr657117, he657118, he657119, hdc, hds, bo657111, x657112, x657113⟩ := hp657108
        have hm657120 : q656893 ∈ P657114 := hsb657116 q656893 hm657077
        have hm657121 : q656894 ∈ P657114 := hsb657116 q656894 hm657078
        have hm657122 : q656895 ∈ P657114 := hsb657116 q656895 hm657079
        have hm657123 : q657058 ∈ P657114 := hsb657116 q657058 hm657099
        have hm657124 : q657094 ∈ P657114 := hsb657116 q657094 hm657101
        have hsb657125 : rSub P656891 P657114 := rSub_tr hsb657080 hsb657116
        have he657126 : F657115 q656894 = .inr (20, [.int p656909, .int p656900, .int o657059, .int o657060, .int p656913, .int o657061, .int o657062]) := (hfr657117 q656894 hm657078 nm_n).trans he657074
        have he657127 : F657115 q656893 = .inr (19, [.ref q656895, .int p656896, .int o657054, .int o657055, .int o657056, .int o657057, .int o657005, .ref q657058, .int p656903, .int p656904, .int p656905, .ref qo656906, .ref qo656907, .int p656908]) := (hfr657117 q656893 hm657077 nm_n).trans he657075
        have he657128 : F657115 q656895 = .inl (I .byte, 8192, .inl f656916) := (hfr657117 q656895 hm657079 nm_n).trans he657076
        have hfr657129 : rFr [q656894, q656893] P656891 F656892 F657115 := rFr_call hsb657080 hfr657081 hfr657117 (fun b hb hn => ⟨(nm_c (fun e => hn (e ▸ List.mem_cons_self)) (nm_c (fun e => hn (e ▸ (List.mem_cons_of_mem _ List.mem_cons_self))) nm_n)), nm_n⟩)
        have tp657130 : tP I P657114 F657115 o657055 q657058 qo656907 qo656906 := tP_new x657066 hsb657116 (fun b hb => hfr657117 b hb (fun z => by cases z)) (Or.inl rfl) (Or.inl rfl)
        change G _ _ _ _ _ _ _ (.int o657111 :: _) _ _ _
        refine G_widen (cs' := (16 * (o657054.toInt - p656897.toInt) + 0 : Int).toNat + 8) (sl' := (256 * (o657054.toInt - p656897.toInt) + 0 : Int).toNat + 64) (by omega) (by omega) ?_
        refine G_widen (cs' := (16 * (o657054.toInt - p656897.toInt) + 8 : Int).toNat) (sl' := (256 * (o657054.toInt - p656897.toInt) + 64 : Int).toNat) (by omega) (by omega) ?_
        refine G_goto 87 dr_cX14_row_83 (by decide +kernel) ?_
        refine Gp_put 0 hm657121 he657126 dr_cX14_row_87 (gk_X15 D I) (Nat.le_of_ble_eq_true rfl) wr_9_179 rfl rfl rfl (Nat.le_of_ble_eq_true rfl) (fun F657131 e657132 n657133 => ?_)
        have he657134 : F657131 q656893 = .inr (19, [.ref q656895, .int p656896, .int o657054, .int o657055, .int o657056, .int o657057, .int o657005, .ref q657058, .int p656903, .int p656904, .int p656905, .ref qo656906, .ref qo656907, .int p656908]) := (n657133 q656893 (rn_oo he657127 he657126 (by decide))).trans he657127
        have he657135 : F657131 q656895 = .inl (I .byte, 8192, .inl f656916) := (n657133 q656895 (rn_ao he657128 he657126)).trans he657128
        have he657136 : F657131 q657058 = .inr (0, [.ref q657094, .int 0, .int p657097, .int p657098]) := (n657133 q657058 (rn_oo he657118 he657126 (by decide))).trans he657118
        have he657137 : F657131 q657094 = .inl (I .byte, n657095, .inl f657096) := (n657133 q657094 (rn_ao he657119 he657126)).trans he657119
        have he657138 : F657131 q656894 = .inr (20, [.int o657111, .int p656900, .int o657059, .int o657060, .int p656913, .int o657061, .int o657062]) := e657132
        have hfr657139 : rFr [q656894, q656893] P656891 F656892 F657131 := rFr_put' List.mem_cons_self hfr657129 n657133
        have tp657140 : tP I P657114 F657131 o657055 q657058 qo656907 qo656906 := tP_put tp657130 he657126 (by decide) n657133
        clear he657074 he657075 he657076 bo657055 hm657077 hm657078 hm657079 hsb657080 hfr657081 hm657099 he657100 hm657101 he657102 hg657104 hg657105 hsb657116 hfr657117 he657118 he657119 he657126 he657127 he657128 hfr657129; try clear r657109; try clear w657110; try clear dc657106; try clear ds657107; try clear hp657108
        refine G_aload_n 1 dr_cX14_row_90 rfl ?_
        refine Gp_get 0 hm657121 he657138 dr_cX14_row_91 (gk_X15 D I) (Nat.le_of_ble_eq_true rfl) wr_9_179 rfl ?_
        refine G_if_ne 98 dr_cX14_row_94 (by decide +kernel) (fun hc657141 => ?_) (fun hc657141 => ?_)
        · have r657142 : o657111.toInt ≠ 0 := gj_neq hc657141 (show Int32.toInt 0 = 0 by decide)
          have bo657111' : gB o657111 1 14 := ⟨by omega, by omega⟩
          refine G_aload_n 0 dr_cX14_row_98 rfl ?_
          refine Gw_callV (As := []) (gV_ok D I) (cp_653748_Reader_next l hl0 D I P657114 F657131 q656893 q656895 p656896 o657054 o657055 o657056 o657057 o657005 q657058 p656903 p656904 p656905 qo656906 qo656907 p656908 f656916 hm657120 hm657122 he657134 he657135 bp656896 bo657054 (gB_w bo657055' (by decide) (by decide)) bo657056 bo657005 bp656903 bp656904 bp656905 bp656908 bf656916 (by have qa0 : Int32.toInt 0 = 0 := (by decide); omega) (hsb657125 _ x656918) (hsb657125 _ x656919)) dr_cX14_row_99 ⟨wr_7_215, wr_1_32, wr_7_218, by decide, rfl, (Nat.le_of_ble_eq_true rfl), (Nat.le_of_ble_eq_true rfl)⟩ wr_7_217 wr_p_75 hm657120 he657134 rfl (show (16 * (o657054.toInt - p656897.toInt) + 8 : Int).toNat + ((16 * (p656896.toInt - o657054.toInt)).toNat) ≤ ((16 * (p656896.toInt - p656897.toInt)).toNat + 9) by first | omega | decide) (show (256 * (o657054.toInt - p656897.toInt) + 64 : Int).toNat + ((256 * (p656896.toInt - o657054.toInt)).toNat) ≤ ((256 * (p656896.toInt - p656897.toInt)).toNat + 71) by first | omega | decide) (Nat.le_of_ble_eq_true rfl) (fun r657146 w657147 dc657143 ds657144 hp657145 => ?_) (fun _ _ _ _ _ z => z.elim)
          obtain ⟨P657158, F657159, o657148, o657149, o657150, o657151, q657152, rfl, rfl, hsb657160, hfr657161, he657162, he657163, hdc, hds, bo657148, bo657149, bo657150, x657153, x657154, x657155, x657156, x657157⟩ := hp657145
          have hm657164 : q656893 ∈ P657158 := hsb657160 q656893 hm657120
          have hm657165 : q656894 ∈ P657158 := hsb657160 q656894 hm657121
          have hm657166 : q656895 ∈ P657158 := hsb657160 q656895 hm657122
          have hm657167 : q657058 ∈ P657158 := hsb657160 q657058 hm657123
          have hm657168 : q657094 ∈ P657158 := hsb657160 q657094 hm657124
          have hsb657169 : rSub P656891 P657158 := rSub_tr hsb657125 hsb657160
          have he657170 : F657159 q656894 = .inr (20, [.int o657111, .int p656900, .int o657059, .int o657060, .int p656913, .int o657061, .int o657062]) := (hfr657161 q656894 hm657121 (nm_c (rn_oo he657138 he657134 (by decide)) nm_n)).trans he657138
          have he657171 : F657159 q657058 = .inr (0, [.ref q657094, .int 0, .int p657097, .int p657098]) := (hfr657161 q657058 hm657123 (nm_c (rn_oo he657136 he657134 (by decide)) nm_n)).trans he657136
          have he657172 : F657159 q657094 = .inl (I .byte, n657095, .inl f657096) := (hfr657161 q657094 hm657124 (nm_c (rn_ao he657137 he657134) nm_n)).trans he657137
          have hfr657173 : rFr [q656894, q656893] P656891 F656892 F657159 := rFr_call hsb657125 hfr657139 hfr657161 (fun b hb hn => ⟨(nm_c (fun e => hn (e ▸ List.mem_cons_self)) (nm_c (fun e => hn (e ▸ (List.mem_cons_of_mem _ List.mem_cons_self))) nm_n)), (nm_c (fun e => hn (e ▸ (List.mem_cons_of_mem _ List.mem_cons_self))) nm_n)⟩)
          have bo657151 := gB_any o657151
          change G _ _ _ _ _ _ _ _ _ _ _
          refine G_widen (cs' := (16 * (o657054.toInt - p656897.toInt) + 8 : Int).toNat + ((16 * (o657148.toInt - o657054.toInt)).toNat)) (sl' := (256 * (o657054.toInt - p656897.toInt) + 64 : Int).toNat + ((256 * (o657148.toInt - o657054.toInt)).toNat)) (by omega) (by omega) ?_
          have x657174 : p656897.toInt ≤ o657148.toInt := by omega
          refine G_widen (cs' := (16 * (o657148.toInt - p656897.toInt) + 8 : Int).toNat) (sl' := (256 * (o657148.toInt - p656897.toInt) + 64 : Int).toNat) (by omega) (by omega) ?_
          clear bo656952 bo657056 bf657096 bp657098 bp657097 bo657111 hm657120 hm657121 hm657122 hm657123 hm657124 hsb657125 he657134 he657135 he657136 he657137 he657138 hfr657139 hsb657160 hfr657161 hm657167 hm657168 he657171 he657172; try clear x656957; try clear x656958; try clear x656959; try clear x656977; try clear x657009; try clear x657010; try clear x657103; try clear r657146; try clear w657147; try clear dc657143; try clear ds657144; try clear hp657145
          refine G_aload_n 0 dr_cX14_row_102 rfl ?_
          refine G_aload_n 1 dr_cX14_row_103 rfl ?_
          refine G_iconst 1 dr_cX14_row_104 (by decide +kernel) ?_
          refine Gw_callV (As := [.ref q656894, .int 1]) (gV_ok D I) (cp_655962_Reader_operand l hl0 D I P657158 F657159 q656893 q656894 q656895 1 p656896 o657148 o657149 o657150 o657151 o657055 q657152 p656903 p656904 p656905 qo656906 qo656907 p656908 o657111 p656900 o657059 o657060 p656913 o657061 o657062 f656916 hm657164 hm657165 hm657166 he657162 he657170 he657163 (gB_w (gBl (show Int32.toInt 1 = 1 by decide)) (by decide) (by decide)) bp656896 bo657148 bo657149 bo657150 (gB_w bo657055' (by decide) (by decide)) bp656903 bp656904 bp656905 bp656908 (gB_w bo657111' (by decide) (by decide)) (gB_w bv656976 (by decide) (by decide)) bp656913 bo657061 bo657062 bf656916 (by omega) (hsb657169 _ x656918) (hsb657169 _ x656919) x657156 x657157 x657068 x657069 (opP_of (gB_w bo657111' (by decide) (by decide)))) dr_cX14_row_105 ⟨wr_10_89, wr_1_32, wr_10_92, by decide, rfl, (Nat.le_of_ble_eq_true rfl), (Nat.le_of_ble_eq_true rfl)⟩ wr_10_91 wr_p_89 hm657164 he657162 rfl (show (16 * (o657148.toInt - p656897.toInt) + 8 : Int).toNat + ((16 * (p656896.toInt - o657148.toInt)).toNat + 1) ≤ ((16 * (p656896.toInt - p656897.toInt)).toNat + 9) by first | omega | decide) (show (256 * (o657148.toInt - p656897.toInt) + 64 : Int).toNat + ((256 * (p656896.toInt - o657148.toInt)).toNat + 7) ≤ ((256 * (p656896.toInt - p656897.toInt)).toNat + 71) by first | omega | decide) (Nat.le_of_ble_eq_true rfl) (fun r657178 w657179 dc657175 ds657176 hp657177 => ?_) (fun _ qx657191 _ dc657189 ds657190 hx => by obtain ⟨P657187, F657188, rfl, rfl, hsb657180, hfr657181, hq657182, hqn657183, hwr657184, hdc657185, hds657186, x657192⟩ := hx; exact GT_outA rfl (show (16 * (o657148.toInt - p656897.toInt) + 8 : Int).toNat + dc657189 ≤ ((16 * (p656896.toInt - p656897.toInt)).toNat + 9) by omega) (show (256 * (o657148.toInt - p656897.toInt) + 64 : Int).toNat + ds657190 ≤ ((256 * (p656896.toInt - p656897.toInt)).toNat + 71) by omega) ⟨P657187, F657188, rfl, rfl, (rSub_tr hsb657169 hsb657180), (show rFr [q656894, q656893] P656891 F656892 F657188 from rFr_call hsb657169 hfr657173 hfr657181 (fun b hb hn => ⟨(nm_c (fun e => hn (e ▸ List.mem_cons_self)) (nm_c (fun e => hn (e ▸ (List.mem_cons_of_mem _ List.mem_cons_self))) nm_n)), nm_n⟩)), hq657182, (fun z => hqn657183 (hsb657169 _ z)), hwr657184, (by omega), (by omega), ⟨o657111, p656900, o657059, o657060, p656913, o657061, o657062, ((hfr657181 q656894 hm657165 nm_n).trans he657170), (gB_w bo657111' (by decide) (by decide)), (gB_w bv656976 (by decide) (by decide)), bp656913, bo657061, bo657062, (opP_of (gB_w bo657111' (by decide) (by decide))), x657068, x657069⟩⟩)
          obtain ⟨P657209, F657210, o657193, o657194, o657195, o657196, q657197, o657198, o657199, o657200, o657201, rfl, rfl, hsb657211, hfr657212, he657213, he657214, he657215, hdc, hds, bo657193, bo657194, bo657195, bo657200, bo657201, x657202, x657203, x657204, x657205, x657206, x657207, x657208⟩ := hp657177
          have hm657216 : q656893 ∈ P657209 := hsb657211 q656893 hm657164
          have hm657217 : q656894 ∈ P657209 := hsb657211 q656894 hm657165
          have hm657218 : q656895 ∈ P657209 := hsb657211 q656895 hm657166
          have hsb657219 : rSub P656891 P657209 := rSub_tr hsb657169 hsb657211
          have hfr657220 : rFr [q656894, q656893] P656891 F656892 F657210 := rFr_call hsb657169 hfr657173 hfr657212 (fun b hb hn => ⟨(nm_c (fun e => hn (e ▸ List.mem_cons_self)) (nm_c (fun e => hn (e ▸ (List.mem_cons_of_mem _ List.mem_cons_self))) nm_n)), (nm_c (fun e => hn (e ▸ List.mem_cons_self)) (nm_c (fun e => hn (e ▸ (List.mem_cons_of_mem _ List.mem_cons_self))) nm_n))⟩)
          have bo657196 := gB_any o657196
          have bo657198 := gB_any o657198
          have bo657199 := gB_any o657199
          change G _ _ _ _ _ _ _ _ _ _ _
          refine G_widen (cs' := (16 * (o657148.toInt - p656897.toInt) + 8 : Int).toNat + ((16 * (o657193.toInt - o657148.toInt)).toNat)) (sl' := (256 * (o657148.toInt - p656897.toInt) + 64 : Int).toNat + ((256 * (o657193.toInt - o657148.toInt)).toNat)) (by omega) (by omega) ?_
          exact G_vretA dr_cX14_row_108 rfl (show (16 * (o657148.toInt - p656897.toInt) + 8 : Int).toNat + ((16 * (o657193.toInt - o657148.toInt)).toNat) ≤ ((16 * (p656896.toInt - p656897.toInt)).toNat + 9) by omega) (show (256 * (o657148.toInt - p656897.toInt) + 64 : Int).toNat + ((256 * (o657193.toInt - o657148.toInt)).toNat) ≤ ((256 * (p656896.toInt - p656897.toInt)).toNat + 71) by omega) ⟨P657209, F657210, o657193, o657194, o657195, o657196, o657149, q657197, o657111, p656900, o657198, o657199, o657200, o657201, rfl, rfl, hsb657219, hfr657220, he657213, he657214, he657215, (by omega), (by omega), bo657193, bo657194, bo657195, bo657149, (gB_w bo657111' (by decide) (by decide)), (gB_w bv656976 (by decide) (by decide)), bo657200, bo657201, (by omega), (prP_le x657203 (by omega)), (by omega), x657205, x657206, x657207, x657208, (opP_of (gB_w bo657111' (by decide) (by decide)))⟩
        · have r657221 : o657111.toInt = 0 := gj_eq hc657141 (show Int32.toInt 0 = 0 by decide)
          have bo657111' : gB o657111 0 0 := ⟨by omega, by omega⟩
          exact G_vretA dr_cX14_row_97 rfl (show (16 * (o657054.toInt - p656897.toInt) + 8 : Int).toNat ≤ ((16 * (p656896.toInt - p656897.toInt)).toNat + 9) by omega) (show (256 * (o657054.toInt - p656897.toInt) + 64 : Int).toNat ≤ ((256 * (p656896.toInt - p656897.toInt)).toNat + 71) by omega) ⟨P657114, F657131, o657054, o657055, o657056, o657057, o657005, q657058, o657111, p656900, o657059, o657060, o657061, o657062, rfl, rfl, hsb657125, hfr657139, he657138, he657134, he657135, (by omega), (by omega), bo657054, (gB_w bo657055' (by decide) (by decide)), bo657056, bo657005, (gB_w bo657111' (by decide) (by decide)), (gB_w bv656976 (by decide) (by decide)), bo657061, bo657062, (by have qa0 : Int32.toInt 0 = 0 := (by decide); omega), (prP_le x657064 (by omega)), (by have qa0 : Int32.toInt 0 = 0 := (by decide); omega), tp657140, x657067, x657068, x657069, (opP_of (gB_w bo657111' (by decide) (by decide)))⟩
    · have r657222 : o657033.toInt ≠ 0 := gj_neq hc657034 (show Int32.toInt 0 = 0 by decide)
      have bo657033' : gB o657033 1 1 := ⟨by omega, by omega⟩
      refine G_aload_n 0 dr_cX14_row_50 rfl ?_
      refine Gw_callV (As := []) (gV_ok D I) (cp_653748_Reader_next l hl0 D I P657014 F657015 q656893 q656895 p656896 o657004 o657005 o657006 o657007 o656953 q657008 p656903 p656904 p656905 qo656906 qo656907 p656908 f656916 hm657020 hm657022 he657018 he657019 bp656896 bo657004 bo657005 bo657006 bo656953 bp656903 bp656904 bp656905 bp656908 bf656916 (by omega) (hsb657023 _ x656918) (hsb657023 _ x656919)) dr_cX14_row_51 ⟨wr_7_215, wr_1_32, wr_7_218, by decide, rfl, (Nat.le_of_ble_eq_true rfl), (Nat.le_of_ble_eq_true rfl)⟩ wr_7_217 wr_p_75 hm657020 he657018 rfl (show (16 * (o657004.toInt - p656897.toInt) + 0 : Int).toNat + 0 + ((16 * (p656896.toInt - o657004.toInt)).toNat) ≤ ((16 * (p656896.toInt - p656897.toInt)).toNat + 9) by first | omega | decide) (show (256 * (o657004.toInt - p656897.toInt) + 0 : Int).toNat + 0 + ((256 * (p656896.toInt - o657004.toInt)).toNat) ≤ ((256 * (p656896.toInt - p656897.toInt)).toNat + 71) by first | omega | decide) (Nat.le_of_ble_eq_true rfl) (fun r657226 w657227 dc657223 ds657224 hp657225 => ?_) (fun _ _ _ _ _ z => z.elim)
      obtain ⟨P657238, F657239, o657228, o657229, o657230, o657231, q657232, rfl, rfl, hsb657240, hfr657241, he657242, he657243, hdc, hds, bo657228, bo657229, bo657230, x657233, x657234, x657235, x657236, x657237⟩ := hp657225
      have hm657244 : q656893 ∈ P657238 := hsb657240 q656893 hm657020
      have hm657245 : q656894 ∈ P657238 := hsb657240 q656894 hm657021
      have hm657246 : q656895 ∈ P657238 := hsb657240 q656895 hm657022
      have hsb657247 : rSub P656891 P657238 := rSub_tr hsb657023 hsb657240
      have he657248 : F657239 q656894 = .inr (20, [.int p656909, .int p656900, .int p656911, .int p656912, .int p656913, .int p656914, .int p656915]) := (hfr657241 q656894 hm657021 (nm_c (rn_oo he657024 he657018 (by decide)) nm_n)).trans he657024
      have hfr657249 : rFr [q656894, q656893] P656891 F656892 F657239 := rFr_call hsb657023 hfr657025 hfr657241 (fun b hb hn => ⟨(nm_c (fun e => hn (e ▸ List.mem_cons_self)) (nm_c (fun e => hn (e ▸ (List.mem_cons_of_mem _ List.mem_cons_self))) nm_n)), (nm_c (fun e => hn (e ▸ (List.mem_cons_of_mem _ List.mem_cons_self))) nm_n)⟩)
      have bo657231 := gB_any o657231
      change G _ _ _ _ _ _ _ _ _ _ _
      refine G_widen (cs' := (16 * (o657004.toInt - p656897.toInt) + 0 : Int).toNat + 0 + ((16 * (o657228.toInt - o657004.toInt)).toNat)) (sl' := (256 * (o657004.toInt - p656897.toInt) + 0 : Int).toNat + 0 + ((256 * (o657228.toInt - o657004.toInt)).toNat)) (by omega) (by omega) ?_
      have x657250 : p656897.toInt ≤ o657228.toInt := by omega
      refine G_widen (cs' := (16 * (o657228.toInt - p656897.toInt) + 0 : Int).toNat) (sl' := (256 * (o657228.toInt - p656897.toInt) + 0 : Int).toNat) (by omega) (by omega) ?_
      clear he657018 he657019 bo657006 hm657020 hm657021 hm657022 hsb657023 he657024 hfr657025 bo657033 bo657033' hsb657240 hfr657241; try clear r657031; try clear w657032; try clear dc657028; try clear ds657029; try clear hp657030; try clear r657222; try clear r657226; try clear w657227; try clear dc657223; try clear ds657224; try clear hp657225
      refine G_aload_n 1 dr_cX14_row_54 rfl ?_
      refine G_bipush 20 dr_cX14_row_55 (by decide +kernel) ?_
      refine Gp_put 0 hm657245 he657248 dr_cX14_row_57 (gk_X15 D I) (Nat.le_of_ble_eq_true rfl) wr_9_179 rfl rfl rfl (Nat.le_of_ble_eq_true rfl) (fun F657251 e657252 n657253 => ?_)
      have he657254 : F657251 q656893 = .inr (19, [.ref q656895, .int p656896, .int o657228, .int o657229, .int o657230, .int o657231, .int o657005, .ref q657232, .int p656903, .int p656904, .int p656905, .ref qo656906, .ref qo656907, .int p656908]) := (n657253 q656893 (rn_oo he657242 he657248 (by decide))).trans he657242
      have he657255 : F657251 q656895 = .inl (I .byte, 8192, .inl f656916) := (n657253 q656895 (rn_ao he657243 he657248)).trans he657243
      have he657256 : F657251 q656894 = .inr (20, [.int 20, .int p656900, .int p656911, .int p656912, .int p656913, .int p656914, .int p656915]) := e657252
      have hfr657257 : rFr [q656894, q656893] P656891 F656892 F657251 := rFr_put' List.mem_cons_self hfr657249 n657253
      have tp657258 : tP I P657238 F657251 o657229 q657232 qo656907 qo656906 := tP_put x657236 he657248 (by decide) n657253
      exact G_vretA dr_cX14_row_60 rfl (show (16 * (o657228.toInt - p656897.toInt) + 0 : Int).toNat ≤ ((16 * (p656896.toInt - p656897.toInt)).toNat + 9) by omega) (show (256 * (o657228.toInt - p656897.toInt) + 0 : Int).toNat ≤ ((256 * (p656896.toInt - p656897.toInt)).toNat + 71) by omega) ⟨P657238, F657251, o657228, o657229, o657230, o657231, o657005, q657232, 20, p656900, p656911, p656912, p656914, p656915, rfl, rfl, hsb657247, hfr657257, he657256, he657254, he657255, (by omega), (by omega), bo657228, bo657229, bo657230, bo657005, (gB_w (gBl (show Int32.toInt 20 = 20 by decide)) (by decide) (by decide)), (gB_w bv656976 (by decide) (by decide)), bp656914, bp656915, (by have qa0 : Int32.toInt 20 = 20 := (by decide); omega), (prP_le x657234 (by omega)), (by have qa0 : Int32.toInt 20 = 20 := (by decide); omega), tp657258, x657237, x656922, x656923, (Or.inr (by decide))⟩
  · have r657259 : o656932.toInt ≠ 0 := gj_neq hc656933 (show Int32.toInt 0 = 0 by decide)
    have bo656932' : gB o656932 1 1 := ⟨by omega, by omega⟩
    refine G_aload_n 0 dr_cX14_row_9 rfl ?_
    refine Gw_callV (As := []) (gV_ok D I) (cp_653748_Reader_next l hl0 D I P656891 F656892 q656893 q656895 p656896 p656897 p656898 p656899 p656900 p656901 qo656902 p656903 p656904 p656905 qo656906 qo656907 p656908 f656916 hmq656893 hmq656895 heq656893 heq656895 bp656896 bp656897 bp656898 bp656899 bp656901 bp656903 bp656904 bp656905 bp656908 bf656916 (by omega) x656918 x656919) dr_cX14_row_10 ⟨wr_7_215, wr_1_32, wr_7_218, by decide, rfl, (Nat.le_of_ble_eq_true rfl), (Nat.le_of_ble_eq_true rfl)⟩ wr_7_217 wr_p_75 hmq656893 heq656893 rfl (show 0 + ((16 * (p656896.toInt - p656897.toInt)).toNat) ≤ ((16 * (p656896.toInt - p656897.toInt)).toNat + 9) by first | omega | decide) (show 0 + ((256 * (p656896.toInt - p656897.toInt)).toNat) ≤ ((256 * (p656896.toInt - p656897.toInt)).toNat + 71) by first | omega | decide) (Nat.le_of_ble_eq_true rfl) (fun r657263 w657264 dc657260 ds657261 hp657262 => ?_) (fun _ _ _ _ _ z => z.elim)
    obtain ⟨P657275, F657276, o657265, o657266, o657267, o657268, q657269, rfl, rfl, hsb657277, hfr657278, he657279, he657280, hdc, hds, bo657265, bo657266, bo657267, x657270, x657271, x657272, x657273, x657274⟩ := hp657262
    have hm657281 : q656893 ∈ P657275 := hsb657277 q656893 hmq656893
    have hm657282 : q656894 ∈ P657275 := hsb657277 q656894 hmq656894
    have hm657283 : q656895 ∈ P657275 := hsb657277 q656895 hmq656895
    have hsb657284 : rSub P656891 P657275 := rSub_tr (rSub_rf (P := P656891)) hsb657277
    have he657285 : F657276 q656894 = .inr (20, [.int p656909, .int p656910, .int p656911, .int p656912, .int p656913, .int p656914, .int p656915]) := (hfr657278 q656894 hmq656894 (nm_c (rn_oo heq656894 heq656893 (by decide)) nm_n)).trans heq656894
    have hfr657286 : rFr [q656893] P656891 F656892 F657276 := rFr_call (rSub_rf (P := P656891)) (rFr_rf (W := []) (P := P656891) (F := F656892)) hfr657278 (fun b hb hn => ⟨nm_n, (nm_c (fun e => hn (e ▸ List.mem_cons_self)) nm_n)⟩)
    have bo657268 := gB_any o657268
    change G _ _ _ _ _ _ _ _ _ _ _
    refine G_widen (cs' := (16 * (o657265.toInt - p656897.toInt)).toNat) (sl' := (256 * (o657265.toInt - p656897.toInt)).toNat) (by omega) (by omega) ?_
    have x657287 : p656897.toInt ≤ o657265.toInt := by omega
    refine G_widen (cs' := (16 * (o657265.toInt - p656897.toInt) + 0 : Int).toNat) (sl' := (256 * (o657265.toInt - p656897.toInt) + 0 : Int).toNat) (by omega) (by omega) ?_
    clear bo656932 bo656932' hsb657277 hfr657278; try clear r656930; try clear w656931; try clear dc656927; try clear ds656928; try clear hp656929; try clear r657259; try clear r657263; try clear w657264; try clear dc657260; try clear ds657261; try clear hp657262
    refine G_aload_n 1 dr_cX14_row_13 rfl ?_
    refine G_bipush 22 dr_cX14_row_14 (by decide +kernel) ?_
    refine Gp_put 0 hm657282 he657285 dr_cX14_row_16 (gk_X15 D I) (Nat.le_of_ble_eq_true rfl) wr_9_179 rfl rfl rfl (Nat.le_of_ble_eq_true rfl) (fun F657288 e657289 n657290 => ?_)
    have he657291 : F657288 q656893 = .inr (19, [.ref q656895, .int p656896, .int o657265, .int o657266, .int o657267, .int o657268, .int p656898, .ref q657269, .int p656903, .int p656904, .int p656905, .ref qo656906, .ref qo656907, .int p656908]) := (n657290 q656893 (rn_oo he657279 he657285 (by decide))).trans he657279
    have he657292 : F657288 q656895 = .inl (I .byte, 8192, .inl f656916) := (n657290 q656895 (rn_ao he657280 he657285)).trans he657280
    have he657293 : F657288 q656894 = .inr (20, [.int 22, .int p656910, .int p656911, .int p656912, .int p656913, .int p656914, .int p656915]) := e657289
    have hfr657294 : rFr [q656894, q656893] P656891 F656892 F657288 := rFr_put hfr657286 n657290
    have tp657295 : tP I P657275 F657288 o657266 q657269 qo656907 qo656906 := tP_put x657273 he657285 (by decide) n657290
    refine G_aload_n 0 dr_cX14_row_19 rfl ?_
    refine G_aload_n 1 dr_cX14_row_20 rfl ?_
    refine G_iconst 0 dr_cX14_row_21 (by decide +kernel) ?_
    refine Gw_callV (As := [.ref q656894, .int 0]) (gV_ok D I) (cp_655962_Reader_operand l hl0 D I P657275 F657288 q656893 q656894 q656895 0 p656896 o657265 o657266 o657267 o657268 p656898 q657269 p656903 p656904 p656905 qo656906 qo656907 p656908 22 p656910 p656911 p656912 p656913 p656914 p656915 f656916 hm657281 hm657282 hm657283 he657291 he657293 he657292 (gB_w (gBl (show Int32.toInt 0 = 0 by decide)) (by decide) (by decide)) bp656896 bo657265 bo657266 bo657267 bp656898 bp656903 bp656904 bp656905 bp656908 (gB_w (gBl (show Int32.toInt 22 = 22 by decide)) (by decide) (by decide)) bp656910 bp656913 bp656914 bp656915 bf656916 (by have qa0 : Int32.toInt 22 = 22 := (by decide); omega) (hsb657284 _ x656918) (hsb657284 _ x656919) tp657295 x657274 x656922 x656923 (Or.inr (by decide))) dr_cX14_row_22 ⟨wr_10_89, wr_1_32, wr_10_92, by decide, rfl, (Nat.le_of_ble_eq_true rfl), (Nat.le_of_ble_eq_true rfl)⟩ wr_10_91 wr_p_89 hm657281 he657291 rfl (show (16 * (o657265.toInt - p656897.toInt) + 0 : Int).toNat + ((16 * (p656896.toInt - o657265.toInt)).toNat + 1) ≤ ((16 * (p656896.toInt - p656897.toInt)).toNat + 9) by first | omega | decide) (show (256 * (o657265.toInt - p656897.toInt) + 0 : Int).toNat + ((256 * (p656896.toInt - o657265.toInt)).toNat + 7) ≤ ((256 * (p656896.toInt - p656897.toInt)).toNat + 71) by first | omega | decide) (Nat.le_of_ble_eq_true rfl) (fun r657299 w657300 dc657296 ds657297 hp657298 => ?_) (fun _ qx657312 _ dc657310 ds657311 hx => by obtain ⟨P657308, F657309, rfl, rfl, hsb657301, hfr657302, hq657303, hqn657304, hwr657305, hdc657306, hds657307, x657313⟩ := hx; exact GT_outA rfl (show (16 * (o657265.toInt - p656897.toInt) + 0 : Int).toNat + dc657310 ≤ ((16 * (p656896.toInt - p656897.toInt)).toNat + 9) by omega) (show (256 * (o657265.toInt - p656897.toInt) + 0 : Int).toNat + ds657311 ≤ ((256 * (p656896.toInt - p656897.toInt)).toNat + 71) by omega) ⟨P657308, F657309, rfl, rfl, (rSub_tr hsb657284 hsb657301), (show rFr [q656894, q656893] P656891 F656892 F657309 from rFr_call hsb657284 hfr657294 hfr657302 (fun b hb hn => ⟨(nm_c (fun e => hn (e ▸ List.mem_cons_self)) (nm_c (fun e => hn (e ▸ (List.mem_cons_of_mem _ List.mem_cons_self))) nm_n)), nm_n⟩)), hq657303, (fun z => hqn657304 (hsb657284 _ z)), hwr657305, (by omega), (by omega), ⟨22, p656910, p656911, p656912, p656913, p656914, p656915, ((hfr657302 q656894 hm657282 nm_n).trans he657293), (gB_w (gBl (show Int32.toInt 22 = 22 by decide)) (by decide) (by decide)), bp656910, bp656913, bp656914, bp656915, (Or.inr (by decide)), x656922, x656923⟩⟩)
    obtain ⟨P657330, F657331, o657314, o657315, o657316, o657317, q657318, o657319, o657320, o657321, o657322, rfl, rfl, hsb657332, hfr657333, he657334, he657335, he657336, hdc, hds, bo657314, bo657315, bo657316, bo657321, bo657322, x657323, x657324, x657325, x657326, x657327, x657328, x657329⟩ := hp657298
    have hm657337 : q656893 ∈ P657330 := hsb657332 q656893 hm657281
    have hm657338 : q656894 ∈ P657330 := hsb657332 q656894 hm657282
    have hm657339 : q656895 ∈ P657330 := hsb657332 q656895 hm657283
    have hsb657340 : rSub P656891 P657330 := rSub_tr hsb657284 hsb657332
    have hfr657341 : rFr [q656894, q656893] P656891 F656892 F657331 := rFr_call hsb657284 hfr657294 hfr657333 (fun b hb hn => ⟨(nm_c (fun e => hn (e ▸ List.mem_cons_self)) (nm_c (fun e => hn (e ▸ (List.mem_cons_of_mem _ List.mem_cons_self))) nm_n)), (nm_c (fun e => hn (e ▸ List.mem_cons_self)) (nm_c (fun e => hn (e ▸ (List.mem_cons_of_mem _ List.mem_cons_self))) nm_n))⟩)
    have bo657317 := gB_any o657317
    have bo657319 := gB_any o657319
    have bo657320 := gB_any o657320
    change G _ _ _ _ _ _ _ _ _ _ _
    refine G_widen (cs' := (16 * (o657265.toInt - p656897.toInt) + 0 : Int).toNat + ((16 * (o657314.toInt - o657265.toInt)).toNat)) (sl' := (256 * (o657265.toInt - p656897.toInt) + 0 : Int).toNat + ((256 * (o657314.toInt - o657265.toInt)).toNat)) (by omega) (by omega) ?_
    exact G_vretA dr_cX14_row_25 rfl (show (16 * (o657265.toInt - p656897.toInt) + 0 : Int).toNat + ((16 * (o657314.toInt - o657265.toInt)).toNat) ≤ ((16 * (p656896.toInt - p656897.toInt)).toNat + 9) by omega) (show (256 * (o657265.toInt - p656897.toInt) + 0 : Int).toNat + ((256 * (o657314.toInt - o657265.toInt)).toNat) ≤ ((256 * (p656896.toInt - p656897.toInt)).toNat + 71) by omega) ⟨P657330, F657331, o657314, o657315, o657316, o657317, o657266, q657318, 22, p656910, o657319, o657320, o657321, o657322, rfl, rfl, hsb657340, hfr657341, he657334, he657335, he657336, (by omega), (by omega), bo657314, bo657315, bo657316, bo657266, (gB_w (gBl (show Int32.toInt 22 = 22 by decide)) (by decide) (by decide)), bp656910, bo657321, bo657322, (by have qa0 : Int32.toInt 22 = 22 := (by decide); omega), (prP_le x657324 (by omega)), (by have qa0 : Int32.toInt 22 = 22 := (by decide); omega), x657326, x657327, x657328, x657329, (Or.inr (by decide))⟩
