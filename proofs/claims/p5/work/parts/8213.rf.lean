theorem dr_cJ7_copyOf_59c91_0 : decode cJ7_copyOf_59c91 0 = .ok (.iload_n 1, 1) := by decide +kernel
theorem dr_cJ7_copyOf_59c91_1 : decode cJ7_copyOf_59c91 1 = .ok (.aload_n 0, 1) := by decide +kernel
theorem dr_cJ7_copyOf_59c91_2 : decode cJ7_copyOf_59c91 2 = .ok (.arraylength, 1) := by decide +kernel
theorem dr_cJ7_copyOf_59c91_3 : decode cJ7_copyOf_59c91 3 = .ok (.if_icmp .ne 11, 3) := by decide +kernel
theorem dr_cJ7_copyOf_59c91_14 : decode cJ7_copyOf_59c91 14 = .ok (.iload_n 1, 1) := by decide +kernel
theorem dr_cJ7_copyOf_59c91_15 : decode cJ7_copyOf_59c91 15 = .ok (.newarray .int, 2) := by decide +kernel
theorem wr_1_95 : (Jvm.Cond.arrayClass Jvm.ClassFile.FieldType.int) ∈ gw := gw_1 95 rfl rfl
theorem dr_cJ7_copyOf_59c91_17 : decode cJ7_copyOf_59c91 17 = .ok (.astore_n 2, 1) := by decide +kernel
theorem dr_cJ7_copyOf_59c91_18 : decode cJ7_copyOf_59c91 18 = .ok (.aload_n 0, 1) := by decide +kernel
theorem dr_cJ7_copyOf_59c91_19 : decode cJ7_copyOf_59c91 19 = .ok (.iconst 0, 1) := by decide +kernel
theorem dr_cJ7_copyOf_59c91_20 : decode cJ7_copyOf_59c91 20 = .ok (.aload_n 2, 1) := by decide +kernel
theorem dr_cJ7_copyOf_59c91_21 : decode cJ7_copyOf_59c91 21 = .ok (.iconst 0, 1) := by decide +kernel
theorem dr_cJ7_copyOf_59c91_22 : decode cJ7_copyOf_59c91 22 = .ok (.aload_n 0, 1) := by decide +kernel
theorem dr_cJ7_copyOf_59c91_23 : decode cJ7_copyOf_59c91 23 = .ok (.arraylength, 1) := by decide +kernel
theorem dr_cJ7_copyOf_59c91_24 : decode cJ7_copyOf_59c91 24 = .ok (.iload_n 1, 1) := by decide +kernel
theorem dr_cJ7_copyOf_59c91_25 : decode cJ7_copyOf_59c91 25 = .ok (.invokestatic 304, 3) := by decide +kernel
theorem dr_cJ7_copyOf_59c91_28 : decode cJ7_copyOf_59c91 28 = .ok (.invokestatic 150, 3) := by decide +kernel
theorem dr_cJ7_copyOf_59c91_31 : decode cJ7_copyOf_59c91 31 = .ok (.aload_n 2, 1) := by decide +kernel
theorem dr_cJ7_copyOf_59c91_32 : decode cJ7_copyOf_59c91 32 = .ok (.areturn, 1) := by decide +kernel
theorem dr_cX14_goal_0 : decode cX14_goal 0 = .ok (.aload_n 0, 1) := by decide +kernel
theorem dr_cX14_goal_1 : decode cX14_goal 1 = .ok (.getfield 143, 3) := by decide +kernel
theorem wr_9_47 : (Jvm.Cond.fieldLink "SpillForgeModel$Reader" (143 : Nat) "SpillForgeModel$Reader" "goalN" "I") ∈ gw := gw_9 47 rfl rfl
theorem dr_cX14_goal_4 : decode cX14_goal 4 = .ok (.aload_n 0, 1) := by decide +kernel
theorem dr_cX14_goal_5 : decode cX14_goal 5 = .ok (.getfield 25, 3) := by decide +kernel
theorem wr_9_46 : (Jvm.Cond.fieldLink "SpillForgeModel$Reader" (25 : Nat) "SpillForgeModel$Reader" "goals" "[I") ∈ gw := gw_9 46 rfl rfl
theorem dr_cX14_goal_8 : decode cX14_goal 8 = .ok (.arraylength, 1) := by decide +kernel
theorem dr_cX14_goal_9 : decode cX14_goal 9 = .ok (.if_icmp .ne 37, 3) := by decide +kernel
theorem dr_cX14_goal_46 : decode cX14_goal 46 = .ok (.aload_n 0, 1) := by decide +kernel
theorem dr_cX14_goal_47 : decode cX14_goal 47 = .ok (.getfield 21, 3) := by decide +kernel
theorem wr_9_45 : (Jvm.Cond.fieldLink "SpillForgeModel$Reader" (21 : Nat) "SpillForgeModel$Reader" "goalPlaces" "[I") ∈ gw := gw_9 45 rfl rfl
theorem dr_cX14_goal_50 : decode cX14_goal 50 = .ok (.aload_n 0, 1) := by decide +kernel
theorem dr_cX14_goal_51 : decode cX14_goal 51 = .ok (.getfield 143, 3) := by decide +kernel
theorem dr_cX14_goal_54 : decode cX14_goal 54 = .ok (.aload_n 0, 1) := by decide +kernel
theorem dr_cX14_goal_55 : decode cX14_goal 55 = .ok (.getfield 47, 3) := by decide +kernel
theorem dr_cX14_goal_58 : decode cX14_goal 58 = .ok (.iastore, 1) := by decide +kernel
theorem dr_cX14_goal_59 : decode cX14_goal 59 = .ok (.aload_n 0, 1) := by decide +kernel
theorem dr_cX14_goal_60 : decode cX14_goal 60 = .ok (.iconst 3, 1) := by decide +kernel
theorem dr_cX14_goal_61 : decode cX14_goal 61 = .ok (.invokevirtual 152, 3) := by decide +kernel
theorem wr_9_89 : (Jvm.Cond.methodLink "SpillForgeModel$Reader" (152 : Nat) ({ cls := "SpillForgeModel$Reader", name := "want", desc := "(I)I" } : Jvm.MethodName)) ∈ gw := gw_9 89 rfl rfl
theorem wr_9_92 : (Jvm.Cond.code ({ cls := "SpillForgeModel$Reader", name := "want", desc := "(I)I" } : Jvm.MethodName) prog_17_method_11_code (3 : Nat) (Option.some Jvm.ClassFile.FieldType.int)) ∈ gw := gw_9 92 rfl rfl
theorem wr_9_91 : (Jvm.Cond.instanceMethod ({ cls := "SpillForgeModel$Reader", name := "want", desc := "(I)I" } : Jvm.MethodName)) ∈ gw := gw_9 91 rfl rfl
theorem wr_p_80 : Cond.selects "SpillForgeModel$Reader" ⟨"SpillForgeModel$Reader", "want", "(I)I"⟩ ⟨"SpillForgeModel$Reader", "want", "(I)I"⟩ ∈ gw := gw_p _ 80 rfl rfl rfl
theorem dr_cX14_goal_64 : decode cX14_goal 64 = .ok (.istore_n 1, 1) := by decide +kernel
theorem dr_cX14_goal_65 : decode cX14_goal 65 = .ok (.aload_n 0, 1) := by decide +kernel
theorem dr_cX14_goal_66 : decode cX14_goal 66 = .ok (.getfield 25, 3) := by decide +kernel
theorem dr_cX14_goal_69 : decode cX14_goal 69 = .ok (.aload_n 0, 1) := by decide +kernel
theorem dr_cX14_goal_70 : decode cX14_goal 70 = .ok (.getfield 143, 3) := by decide +kernel
theorem dr_cX14_goal_73 : decode cX14_goal 73 = .ok (.iload_n 1, 1) := by decide +kernel
theorem dr_cX14_goal_74 : decode cX14_goal 74 = .ok (.iastore, 1) := by decide +kernel
theorem dr_cX14_goal_75 : decode cX14_goal 75 = .ok (.aload_n 0, 1) := by decide +kernel
theorem dr_cX14_goal_76 : decode cX14_goal 76 = .ok (.dup, 1) := by decide +kernel
theorem dr_cX14_goal_77 : decode cX14_goal 77 = .ok (.getfield 143, 3) := by decide +kernel
theorem dr_cX14_goal_80 : decode cX14_goal 80 = .ok (.iconst 1, 1) := by decide +kernel
theorem dr_cX14_goal_81 : decode cX14_goal 81 = .ok (.iadd, 1) := by decide +kernel
theorem dr_cX14_goal_82 : decode cX14_goal 82 = .ok (.putfield 143, 3) := by decide +kernel
theorem dr_cX14_goal_85 : decode cX14_goal 85 = .ok (.iload_n 1, 1) := by decide +kernel
theorem dr_cX14_goal_86 : decode cX14_goal 86 = .ok (.ireturn, 1) := by decide +kernel
theorem dr_cX14_goal_12 : decode cX14_goal 12 = .ok (.aload_n 0, 1) := by decide +kernel
theorem dr_cX14_goal_13 : decode cX14_goal 13 = .ok (.aload_n 0, 1) := by decide +kernel
theorem dr_cX14_goal_14 : decode cX14_goal 14 = .ok (.getfield 25, 3) := by decide +kernel
theorem dr_cX14_goal_17 : decode cX14_goal 17 = .ok (.iconst 2, 1) := by decide +kernel
theorem dr_cX14_goal_18 : decode cX14_goal 18 = .ok (.aload_n 0, 1) := by decide +kernel
theorem dr_cX14_goal_19 : decode cX14_goal 19 = .ok (.getfield 143, 3) := by decide +kernel
theorem dr_cX14_goal_22 : decode cX14_goal 22 = .ok (.imul, 1) := by decide +kernel
theorem dr_cX14_goal_23 : decode cX14_goal 23 = .ok (.invokestatic 146, 3) := by decide +kernel
theorem wr_10_110 : (Jvm.Cond.methodLink "SpillForgeModel$Reader" (146 : Nat) ({ cls := "java/util/Arrays", name := "copyOf", desc := "([II)[I" } : Jvm.MethodName)) ∈ gw := gw_10 110 rfl rfl
theorem wr_10_112 : (Jvm.Cond.code ({ cls := "java/util/Arrays", name := "copyOf", desc := "([II)[I" } : Jvm.MethodName) prog_44_method_123_code (3 : Nat) (Option.some (Jvm.ClassFile.FieldType.array Jvm.ClassFile.FieldType.int))) ∈ gw := gw_10 112 rfl rfl
theorem wr_10_111 : (Jvm.Cond.static ({ cls := "java/util/Arrays", name := "copyOf", desc := "([II)[I" } : Jvm.MethodName)) ∈ gw := gw_10 111 rfl rfl
theorem dr_cX14_goal_26 : decode cX14_goal 26 = .ok (.putfield 25, 3) := by decide +kernel
theorem dr_cX14_goal_29 : decode cX14_goal 29 = .ok (.aload_n 0, 1) := by decide +kernel
theorem dr_cX14_goal_30 : decode cX14_goal 30 = .ok (.aload_n 0, 1) := by decide +kernel
theorem dr_cX14_goal_31 : decode cX14_goal 31 = .ok (.getfield 21, 3) := by decide +kernel
theorem dr_cX14_goal_34 : decode cX14_goal 34 = .ok (.iconst 2, 1) := by decide +kernel
theorem dr_cX14_goal_35 : decode cX14_goal 35 = .ok (.aload_n 0, 1) := by decide +kernel
theorem dr_cX14_goal_36 : decode cX14_goal 36 = .ok (.getfield 143, 3) := by decide +kernel
theorem dr_cX14_goal_39 : decode cX14_goal 39 = .ok (.imul, 1) := by decide +kernel
theorem dr_cX14_goal_40 : decode cX14_goal 40 = .ok (.invokestatic 146, 3) := by decide +kernel
theorem dr_cX14_goal_43 : decode cX14_goal 43 = .ok (.putfield 21, 3) := by decide +kernel
theorem dr_cX14_row_0 : decode cX14_row 0 = .ok (.aload_n 0, 1) := by decide +kernel
theorem dr_cX14_row_1 : decode cX14_row 1 = .ok (.ldc 179, 2) := by decide +kernel
theorem dr_cX14_row_3 : decode cX14_row 3 = .ok (.invokevirtual 132, 3) := by decide +kernel
theorem dr_cX14_row_6 : decode cX14_row 6 = .ok (.ifCond .eq 20, 3) := by decide +kernel
theorem dr_cX14_row_26 : decode cX14_row 26 = .ok (.aload_n 1, 1) := by decide +kernel
theorem dr_cX14_row_27 : decode cX14_row 27 = .ok (.aload_n 0, 1) := by decide +kernel
theorem dr_cX14_row_28 : decode cX14_row 28 = .ok (.iconst 2, 1) := by decide +kernel
theorem dr_cX14_row_29 : decode cX14_row 29 = .ok (.invokevirtual 152, 3) := by decide +kernel
theorem dr_cX14_row_32 : decode cX14_row 32 = .ok (.putfield 227, 3) := by decide +kernel
theorem wr_9_179 : (Jvm.Cond.fieldLink "SpillForgeModel$Reader" (227 : Nat) "SpillForgeModel$Row" "t" "I") ∈ gw := gw_9 179 rfl rfl
theorem dr_cX14_row_35 : decode cX14_row 35 = .ok (.aload_n 0, 1) := by decide +kernel
theorem dr_cX14_row_36 : decode cX14_row 36 = .ok (.ldc 229, 2) := by decide +kernel
theorem dr_cX14_row_38 : decode cX14_row 38 = .ok (.invokevirtual 173, 3) := by decide +kernel
theorem wr_9_133 : (Jvm.Cond.methodLink "SpillForgeModel$Reader" (173 : Nat) ({ cls := "SpillForgeModel$Reader", name := "want", desc := "(Ljava/lang/String;)V" } : Jvm.MethodName)) ∈ gw := gw_9 133 rfl rfl
theorem wr_9_136 : (Jvm.Cond.code ({ cls := "SpillForgeModel$Reader", name := "want", desc := "(Ljava/lang/String;)V" } : Jvm.MethodName) prog_17_method_10_code (2 : Nat) (Option.none : Option Jvm.ClassFile.FieldType)) ∈ gw := gw_9 136 rfl rfl
theorem wr_9_135 : (Jvm.Cond.instanceMethod ({ cls := "SpillForgeModel$Reader", name := "want", desc := "(Ljava/lang/String;)V" } : Jvm.MethodName)) ∈ gw := gw_9 135 rfl rfl
theorem wr_p_83 : Cond.selects "SpillForgeModel$Reader" ⟨"SpillForgeModel$Reader", "want", "(Ljava/lang/String;)V"⟩ ⟨"SpillForgeModel$Reader", "want", "(Ljava/lang/String;)V"⟩ ∈ gw := gw_p _ 83 rfl rfl rfl
theorem dr_cX14_row_41 : decode cX14_row 41 = .ok (.aload_n 0, 1) := by decide +kernel
theorem dr_cX14_row_42 : decode cX14_row 42 = .ok (.ldc 231, 2) := by decide +kernel
theorem dr_cX14_row_44 : decode cX14_row 44 = .ok (.invokevirtual 132, 3) := by decide +kernel
theorem dr_cX14_row_47 : decode cX14_row 47 = .ok (.ifCond .eq 14, 3) := by decide +kernel
theorem dr_cX14_row_61 : decode cX14_row 61 = .ok (.aload_n 0, 1) := by decide +kernel
theorem dr_cX14_row_62 : decode cX14_row 62 = .ok (.aload_n 1, 1) := by decide +kernel
theorem dr_cX14_row_63 : decode cX14_row 63 = .ok (.iconst 0, 1) := by decide +kernel
theorem dr_cX14_row_64 : decode cX14_row 64 = .ok (.invokevirtual 223, 3) := by decide +kernel
theorem wr_10_85 : (Jvm.Cond.methodLink "SpillForgeModel$Reader" (223 : Nat) ({ cls := "SpillForgeModel$Reader", name := "operand", desc := "(LSpillForgeModel$Row;Z)V" } : Jvm.MethodName)) ∈ gw := gw_10 85 rfl rfl
theorem wr_10_88 : (Jvm.Cond.code ({ cls := "SpillForgeModel$Reader", name := "operand", desc := "(LSpillForgeModel$Row;Z)V" } : Jvm.MethodName) prog_17_method_16_code (4 : Nat) (Option.none : Option Jvm.ClassFile.FieldType)) ∈ gw := gw_10 88 rfl rfl
theorem wr_10_87 : (Jvm.Cond.instanceMethod ({ cls := "SpillForgeModel$Reader", name := "operand", desc := "(LSpillForgeModel$Row;Z)V" } : Jvm.MethodName)) ∈ gw := gw_10 87 rfl rfl
theorem wr_p_89 : Cond.selects "SpillForgeModel$Reader" ⟨"SpillForgeModel$Reader", "operand", "(LSpillForgeModel$Row;Z)V"⟩ ⟨"SpillForgeModel$Reader", "operand", "(LSpillForgeModel$Row;Z)V"⟩ ∈ gw := gw_p _ 89 rfl rfl rfl
theorem dr_cX14_row_67 : decode cX14_row 67 = .ok (.aload_n 1, 1) := by decide +kernel
theorem dr_cX14_row_68 : decode cX14_row 68 = .ok (.aload_n 0, 1) := by decide +kernel
theorem dr_cX14_row_69 : decode cX14_row 69 = .ok (.getfield 38, 3) := by decide +kernel
theorem dr_cX14_row_72 : decode cX14_row 72 = .ok (.iconst 5, 1) := by decide +kernel
theorem dr_cX14_row_73 : decode cX14_row 73 = .ok (.if_icmp .ne 13, 3) := by decide +kernel
theorem dr_cX14_row_86 : decode cX14_row 86 = .ok (.iconst 0, 1) := by decide +kernel
theorem dr_cX14_row_87 : decode cX14_row 87 = .ok (.putfield 220, 3) := by decide +kernel
theorem wr_9_175 : (Jvm.Cond.fieldLink "SpillForgeModel$Reader" (220 : Nat) "SpillForgeModel$Row" "op" "I") ∈ gw := gw_9 175 rfl rfl
theorem dr_cX14_row_90 : decode cX14_row 90 = .ok (.aload_n 1, 1) := by decide +kernel
theorem dr_cX14_row_91 : decode cX14_row 91 = .ok (.getfield 220, 3) := by decide +kernel
theorem dr_cX14_row_94 : decode cX14_row 94 = .ok (.ifCond .ne 4, 3) := by decide +kernel
theorem dr_cX14_row_97 : decode cX14_row 97 = .ok (.return_, 1) := by decide +kernel
theorem dr_cX14_row_76 : decode cX14_row 76 = .ok (.aload_n 0, 1) := by decide +kernel
theorem dr_cX14_row_77 : decode cX14_row 77 = .ok (.getfield 11, 3) := by decide +kernel
theorem dr_cX14_row_80 : decode cX14_row 80 = .ok (.invokestatic 233, 3) := by decide +kernel
theorem wr_10_93 : (Jvm.Cond.code ({ cls := "SpillForgeModel", name := "operation", desc := "(Ljava/lang/String;)I" } : Jvm.MethodName) prog_14_method_1_code (4 : Nat) (Option.some Jvm.ClassFile.FieldType.int)) ∈ gw := gw_10 93 rfl rfl
theorem wr_10_92 : (Jvm.Cond.static ({ cls := "SpillForgeModel", name := "operation", desc := "(Ljava/lang/String;)I" } : Jvm.MethodName)) ∈ gw := gw_10 92 rfl rfl
theorem dr_cX14_row_83 : decode cX14_row 83 = .ok (.goto 4, 3) := by decide +kernel
theorem dr_cX14_row_98 : decode cX14_row 98 = .ok (.aload_n 0, 1) := by decide +kernel
theorem dr_cX14_row_99 : decode cX14_row 99 = .ok (.invokevirtual 35, 3) := by decide +kernel
theorem dr_cX14_row_102 : decode cX14_row 102 = .ok (.aload_n 0, 1) := by decide +kernel
theorem dr_cX14_row_103 : decode cX14_row 103 = .ok (.aload_n 1, 1) := by decide +kernel
theorem dr_cX14_row_104 : decode cX14_row 104 = .ok (.iconst 1, 1) := by decide +kernel
theorem dr_cX14_row_105 : decode cX14_row 105 = .ok (.invokevirtual 223, 3) := by decide +kernel
theorem dr_cX14_row_108 : decode cX14_row 108 = .ok (.return_, 1) := by decide +kernel
theorem dr_cX14_row_50 : decode cX14_row 50 = .ok (.aload_n 0, 1) := by decide +kernel
theorem dr_cX14_row_51 : decode cX14_row 51 = .ok (.invokevirtual 35, 3) := by decide +kernel
theorem dr_cX14_row_54 : decode cX14_row 54 = .ok (.aload_n 1, 1) := by decide +kernel
theorem dr_cX14_row_55 : decode cX14_row 55 = .ok (.bipush 20, 2) := by decide +kernel
theorem dr_cX14_row_57 : decode cX14_row 57 = .ok (.putfield 220, 3) := by decide +kernel
theorem dr_cX14_row_60 : decode cX14_row 60 = .ok (.return_, 1) := by decide +kernel
theorem dr_cX14_row_9 : decode cX14_row 9 = .ok (.aload_n 0, 1) := by decide +kernel
theorem dr_cX14_row_10 : decode cX14_row 10 = .ok (.invokevirtual 35, 3) := by decide +kernel
theorem dr_cX14_row_13 : decode cX14_row 13 = .ok (.aload_n 1, 1) := by decide +kernel
theorem dr_cX14_row_14 : decode cX14_row 14 = .ok (.bipush 22, 2) := by decide +kernel
theorem dr_cX14_row_16 : decode cX14_row 16 = .ok (.putfield 220, 3) := by decide +kernel
theorem dr_cX14_row_19 : decode cX14_row 19 = .ok (.aload_n 0, 1) := by decide +kernel
theorem dr_cX14_row_20 : decode cX14_row 20 = .ok (.aload_n 1, 1) := by decide +kernel
theorem dr_cX14_row_21 : decode cX14_row 21 = .ok (.iconst 0, 1) := by decide +kernel
theorem dr_cX14_row_22 : decode cX14_row 22 = .ok (.invokevirtual 223, 3) := by decide +kernel
theorem dr_cX14_row_25 : decode cX14_row 25 = .ok (.return_, 1) := by decide +kernel
abbrev ky_656563_Arrays_copyOf : gKey := (cJ7_copyOf_59c91, 3, "java/util/Arrays", (some (FieldType.array FieldType.int)), [], "copyOf", fun _ _ => True)
def pp_656563_Arrays_copyOf (D : va_G) (I : FieldType → ClassId) (P656555 : List Nat) (F656556 : Nat → va_E) (q656557 : Nat) (p656558 : Int32) (f656559 : Nat → Int32) (n656560 : Nat) : Option Value → va_W → Nat → Nat → Prop := fun r w dc ds => ∃ (P656593 : List Nat) (F656594 : Nat → va_E) (q656591 : Nat) (f656592 : Nat → Int32), r = some (.ref q656591) ∧ w = va_pl P656593 F656594 ∧ rSub P656555 P656593 ∧ rFr [] P656555 F656556 F656594 ∧ F656594 q656557 = .inl (I .int, n656560, .inl f656559) ∧ F656594 q656591 = .inl (I .int, p656558.toInt.toNat, .inl f656592) ∧ q656591 ∈ P656593 ∧ q656591 ∉ P656555 ∧ dc ≤ 1 ∧ ds ≤ p656558.toInt.toNat ∧ (p656558.toInt.toNat : Int) = p656558.toInt ∧ glC f656559 f656592 (n656560 : Int) ∧ glB f656559 f656592
set_option maxRecDepth 100000 in
set_option maxHeartbeats 4000000 in
theorem cp_656563_Arrays_copyOf (l : Launch) (hl0 : l.stackTraces = false) (D : va_G) (I : FieldType → ClassId) (P656555 : List Nat) (F656556 : Nat → va_E) (q656557 : Nat) (p656558 : Int32) (f656559 : Nat → Int32) (n656560 : Nat) (hmq656557 : q656557 ∈ P656555) (heq656557 : F656556 q656557 = .inl (I .int, n656560, .inl f656559)) (bp656558 : gB p656558 32 32768) (x656561 : (n656560 : Int) < p656558.toInt) (x656562 : ((n656560 : Int) ≤ 16777216)) : CtA (gV D I) l yJ7_copyOf_59c91 cJ7_copyOf_59c91 3 (some (FieldType.array FieldType.int)) 1 18 1 p656558.toInt.toNat [.ref q656557, .int p656558] (va_pl P656555 F656556) (pp_656563_Arrays_copyOf D I P656555 F656556 q656557 p656558 f656559 n656560) gNA := by
  refine CtA_ofF hl0 (by decide +kernel) (Nat.le_of_ble_eq_true rfl) ?_
  refine G_iload_n 1 dr_cJ7_copyOf_59c91_0 rfl ?_
  refine G_aload_n 0 dr_cJ7_copyOf_59c91_1 rfl ?_
  refine Gp_alen (Int32.ofNat n656560) 0 hmq656557 heq656557 dr_cJ7_copyOf_59c91_2 rfl rfl (G_nam fun z656564 hz656564 => ?_)
  have ez656564 : z656564.toInt = (n656560 : Nat) := gI_ofM hz656564 (by omega)
  have bz656564 : gB z656564 0 16777216 := ⟨by omega, by omega⟩
  refine G_icmp_ne 14 dr_cJ7_copyOf_59c91_3 (by decide +kernel) (fun hc656565 => ?_) (fun hc => absurd (show False by have := gC_eq hc; omega) not_false)
  have r656567 : p656558.toInt ≠ z656564.toInt := gC_ne hc656565
  refine G_iload_n 1 dr_cJ7_copyOf_59c91_14 rfl ?_
  refine G_newa 0 (p656558.toInt.toNat, .inl (fun _ => 0)) dr_cJ7_copyOf_59c91_15 rfl rfl (by intro C h; cases h) wr_1_95 (fun _ => ga_int _ _) (g_n0 (by omega)) rfl (show p656558.toInt.toNat * 4 ≤ 536870912 by omega) (show 0 + 1 ≤ 1 by first | omega | decide) (show 0 + p656558.toInt.toNat ≤ p656558.toInt.toNat by first | omega | decide) (fun q656568 => Gp_in (fun P656569 F656570 hq656571 hP656572 e656573 n656574 => ?_))
  refine G_widen (cs' := 1) (sl' := p656558.toInt.toNat) (by omega) (by omega) ?_
  have he656575 : F656570 q656557 = .inl (I .int, n656560, .inl f656559) := (n656574 q656557 (fun h => hq656571 (h ▸ hmq656557))).trans heq656557
  have he656576 : F656570 q656568 = .inl (I .int, p656558.toInt.toNat, .inl (fun _ => 0)) := e656573
  have hm656577 : q656557 ∈ P656569 := (hP656572 q656557).mpr (Or.inl hmq656557)
  have hm656578 : q656568 ∈ P656569 := (hP656572 q656568).mpr (Or.inr rfl)
  have hq656579 : q656568 ∉ P656555 := fun z => hq656571 ((rSub_rf (P := P656555)) q656568 z)
  have hfr656580 : rFr [] P656555 F656556 F656570 := rFr_new (rSub_rf (P := P656555)) hq656571 (rFr_rf (W := []) (P := P656555) (F := F656556)) n656574
  have hsb656581 : rSub P656555 P656569 := rSub_new (rSub_rf (P := P656555)) hP656572
  refine G_astore_n (L' := [(2, .ref q656568), (0, .ref q656557), (1, .int p656558)]) dr_cJ7_copyOf_59c91_17 (Nat.le_of_ble_eq_true rfl) rfl ?_
  refine G_aload_n 1 dr_cJ7_copyOf_59c91_18 rfl ?_
  refine G_iconst 0 dr_cJ7_copyOf_59c91_19 (by decide +kernel) ?_
  refine G_aload_n 0 dr_cJ7_copyOf_59c91_20 rfl ?_
  refine G_iconst 0 dr_cJ7_copyOf_59c91_21 (by decide +kernel) ?_
  refine G_aload_n 1 dr_cJ7_copyOf_59c91_22 rfl ?_
  refine Gp_alen (Int32.ofNat n656560) 0 hm656577 he656575 dr_cJ7_copyOf_59c91_23 rfl rfl (G_nam fun z656582 hz656582 => ?_)
  have ez656582 : z656582.toInt = (n656560 : Nat) := gI_ofM hz656582 (by omega)
  have bz656582 : gB z656582 0 16777216 := ⟨by omega, by omega⟩
  refine G_iload_n 2 dr_cJ7_copyOf_59c91_24 rfl ?_
  refine G_mmin dr_cJ7_copyOf_59c91_25 wr_8_27 wr_3_227 wr_1_6 wr_3_228 (Nat.le_of_ble_eq_true rfl) (Nat.le_of_ble_eq_true rfl) (show 1 ≤ 1 by first | omega | decide) (show p656558.toInt.toNat ≤ p656558.toInt.toNat by first | omega | decide) (G_nam fun z656583 hz656583 => ?_)
  have ez656583 : z656582.toInt ≥ z656583.toInt ∧ p656558.toInt ≥ z656583.toInt ∧ (z656583.toInt = z656582.toInt ∨ z656583.toInt = p656558.toInt) := by have := gI_min hz656583; omega
  have bz656583 : gB z656583 0 32768 := ⟨by omega, by omega⟩
  refine Gp_copyp 0 hm656577 hm656578 he656575 he656576 dr_cJ7_copyOf_59c91_28 wr_8_28 wr_5_113 wr_5_112 wr_1_34 rfl rfl (fun _ => rfl) (by decide) (by decide) (by omega) (by have qa0 : Int32.toInt 0 = 0 := (by decide); omega) (by have qa0 : Int32.toInt 0 = 0 := (by decide); omega) (Nat.le_of_ble_eq_true rfl) (Nat.le_of_ble_eq_true rfl) (fun F656584 e656585 n656586 => ?_)
  obtain ⟨f656587, hf656587⟩ : ∃ z, z = va_cpy f656559 (fun _ => 0) (0 : Int32).toNatClampNeg (0 : Int32).toNatClampNeg z656583.toNatClampNeg := ⟨_, rfl⟩
  rw [← hf656587] at e656585
  have he656588 : F656584 q656557 = .inl (I .int, n656560, .inl f656559) := (n656586 q656557 (fun h => hq656579 (h ▸ hmq656557))).trans he656575
  have he656589 : F656584 q656568 = .inl (I .int, p656558.toInt.toNat, .inl f656587) := e656585
  have hfr656590 : rFr [] P656555 F656556 F656584 := rFr_newp hq656579 hfr656580 n656586
  refine G_aload_n 0 dr_cJ7_copyOf_59c91_31 rfl ?_
  exact G_aretA (FieldType.array FieldType.int) dr_cJ7_copyOf_59c91_32 rfl (by first | exact Or.inl ⟨_, rfl⟩ | exact Or.inr ⟨_, rfl⟩) (Or.inr ⟨_, rfl⟩) (Nat.le_of_ble_eq_true rfl) (show p656558.toInt.toNat ≤ p656558.toInt.toNat by omega) ⟨P656569, F656584, q656568, f656587, rfl, rfl, hsb656581, hfr656590, he656588, he656589, hm656578, hq656579, (Nat.le_of_ble_eq_true rfl), (by omega), (by omega), (glC_cpy hf656587 (by decide) (by decide) (by omega)), (glB_cpy hf656587)⟩
abbrev ky_656476_Reader_goal : gKey := (cX14_goal, 2, "SpillForgeModel$Reader", (some FieldType.int), [], "goal", fun _ _ => True)
def pp_656476_Reader_goal (D : va_G) (I : FieldType → ClassId) (P656443 : List Nat) (F656444 : Nat → va_E) (q656445 : Nat) (q656446 : Nat) (q656447 : Nat) (q656448 : Nat) (p656449 : Int32) (p656450 : Int32) (p656451 : Int32) (p656452 : Int32) (p656453 : Int32) (p656454 : Int32) (qo656455 : Nat) (p656456 : Int32) (p656457 : Int32) (p656458 : Int32) (p656459 : Int32) (f656460 : Nat → Int32) (f656461 : Nat → Int32) (n656462 : Nat) (f656463 : Nat → Int32) (n656464 : Nat) : Option Value → va_W → Nat → Nat → Prop := fun r w dc ds => ∃ (P656801 : List Nat) (F656802 : Nat → va_E) (o656789 : Int32) (o656790 : Int32) (o656791 : Int32) (o656792 : Int32) (q656793 : Nat) (o656794 : Int32) (q656795 : Nat) (n656796 : Nat) (f656797 : Nat → Int32) (q656798 : Nat) (n656799 : Nat) (f656800 : Nat → Int32), r = some (.int p656453) ∧ w = va_pl P656801 F656802 ∧ rSub P656443 P656801 ∧ rFr [q656448, q656447, q656445] P656443 F656444 F656802 ∧ F656802 q656795 = .inl (I .int, n656796, .inl f656797) ∧ F656802 q656798 = .inl (I .int, n656799, .inl f656800) ∧ F656802 q656445 = .inr (19, [.ref q656446, .int p656449, .int o656789, .int o656790, .int o656791, .int o656792, .int p656451, .ref q656793, .int p656456, .int p656457, .int p656458, .ref q656795, .ref q656798, .int o656794]) ∧ F656802 q656446 = .inl (I .byte, 8192, .inl f656460) ∧ q656795 ∈ P656801 ∧ (q656795 = q656447 ∨ q656795 ∉ P656443) ∧ q656798 ∈ P656801 ∧ (q656798 = q656448 ∨ q656798 ∉ P656443) ∧ dc ≤ (16 * (o656789.toInt - p656450.toInt)).toNat + 2 ∧ ds ≤ (160 * (o656789.toInt - p656450.toInt)).toNat + 4 * (n656799 - n656464) ∧ gB o656789 0 8192 ∧ gB o656790 0 6 ∧ gB o656791 0 8192 ∧ gB o656794 1 1000000 ∧ p656450.toInt ≤ o656789.toInt ∧ prP o656790 p656450 o656789 ∧ o656789.toInt ≤ p656449.toInt ∧ tP I P656801 F656802 o656790 q656793 q656798 q656795 ∧ vP o656790 o656792 ∧ vP 3 p656453 ∧ p656451.toInt = 3 ∧ (n656799 : Int) ≤ 2 * (n656464 : Int) ∧ q656798 ≠ q656795 ∧ glC f656463 f656800 p656459.toInt ∧ glL f656800 p656459 p656453 ∧ glP f656797 ∧ (n656799 : Int) = (n656796 : Int) ∧ o656794.toInt = p656459.toInt + 1 ∧ o656794.toInt ≤ (n656799 : Int) ∧ 16 ≤ (n656799 : Int) ∧ (n656799 : Int) ≤ 2 * o656794.toInt + 16 ∧ (n656464 : Int) ≤ (n656799 : Int)
def xp_656476_Reader_goal (D : va_G) (I : FieldType → ClassId) (P656443 : List Nat) (F656444 : Nat → va_E) (q656445 : Nat) (q656446 : Nat) (q656447 : Nat) (q656448 : Nat) (p656449 : Int32) (p656450 : Int32) (p656451 : Int32) (p656452 : Int32) (p656453 : Int32) (p656454 : Int32) (qo656455 : Nat) (p656456 : Int32) (p656457 : Int32) (p656458 : Int32) (p656459 : Int32) (f656460 : Nat → Int32) (f656461 : Nat → Int32) (n656462 : Nat) (f656463 : Nat → Int32) (n656464 : Nat) : String → Nat → va_W → Nat → Nat → Prop := fun E q w dc ds => ∃ (P656804 : List Nat) (F656803 : Nat → va_E), E = "SpillForgeModel$Wrong" ∧ w = va_pl P656804 F656803 ∧ rSub P656443 P656804 ∧ rFr [q656447, q656445] P656443 F656444 F656803 ∧ q ∈ P656804 ∧ q ∉ P656443 ∧ wrF F656803 q ∧ dc ≤ (16 * (p656449.toInt - p656450.toInt)).toNat + 3 ∧ ds ≤ (160 * (p656449.toInt - p656450.toInt)).toNat + 4 * n656464 + 7
set_option maxRecDepth 100000 in
set_option maxHeartbeats 4000000 in
theorem cp_656476_Reader_goal (l : Launch) (hl0 : l.stackTraces = false) (D : va_G) (I : FieldType → ClassId) (P656443 : List Nat) (F656444 : Nat → va_E) (q656445 : Nat) (q656446 : Nat) (q656447 : Nat) (q656448 : Nat) (p656449 : Int32) (p656450 : Int32) (p656451 : Int32) (p656452 : Int32) (p656453 : Int32) (p656454 : Int32) (qo656455 : Nat) (p656456 : Int32) (p656457 : Int32) (p656458 : Int32) (p656459 : Int32) (f656460 : Nat → Int32) (f656461 : Nat → Int32) (n656462 : Nat) (f656463 : Nat → Int32) (n656464 : Nat) (hmq656445 : q656445 ∈ P656443) (hmq656446 : q656446 ∈ P656443) (hmq656447 : q656447 ∈ P656443) (hmq656448 : q656448 ∈ P656443) (heq656445 : F656444 q656445 = .inr (19, [.ref q656446, .int p656449, .int p656450, .int p656451, .int p656452, .int p656453, .int p656454, .ref qo656455, .int p656456, .int p656457, .int p656458, .ref q656447, .ref q656448, .int p656459])) (heq656446 : F656444 q656446 = .inl (I .byte, 8192, .inl f656460)) (heq656447 : F656444 q656447 = .inl (I .int, n656462, .inl f656461)) (heq656448 : F656444 q656448 = .inl (I .int, n656464, .inl f656463)) (hneq656446q656447 : q656446 ≠ q656447) (hneq656446q656448 : q656446 ≠ q656448) (hneq656447q656448 : q656447 ≠ q656448) (bp656449 : gB p656449 0 8192) (bp656450 : gB p656450 0 8192) (bp656451 : gB p656451 0 6) (bp656452 : gB p656452 0 8192) (bp656454 : gB p656454 0 6) (bp656456 : gB p656456 (-1) 8192) (bp656457 : gB p656457 0 4) (bp656458 : gB p656458 0 1000000) (bp656459 : gB p656459 0 1000000) (bf656460 : gF f656460 (-128) 127) (x656465 : p656450.toInt ≤ p656449.toInt) (x656466 : tP I P656443 F656444 p656451 qo656455 q656448 q656447) (x656467 : vP p656451 p656453) (x656468 : (n656464 : Int) = (n656462 : Int)) (x656469 : p656459.toInt ≤ (n656464 : Int)) (x656470 : 16 ≤ (n656464 : Int)) (x656471 : (n656464 : Int) ≤ 2 * p656459.toInt + 16) (x656472 : p656459.toInt ≤ 16000) (x656473 : glP f656461) (x656474 : ((n656462 : Int) ≤ 16777216)) (x656475 : ((n656464 : Int) ≤ 16777216)) : CtA (gV D I) l yX14_goal cX14_goal 2 (some FieldType.int) 9 199 ((16 * (p656449.toInt - p656450.toInt)).toNat + 3) ((160 * (p656449.toInt - p656450.toInt)).toNat + 4 * n656464 + 7) [.ref q656445] (va_pl P656443 F656444) (pp_656476_Reader_goal D I P656443 F656444 q656445 q656446 q656447 q656448 p656449 p656450 p656451 p656452 p656453 p656454 qo656455 p656456 p656457 p656458 p656459 f656460 f656461 n656462 f656463 n656464) (xp_656476_Reader_goal D I P656443 F656444 q656445 q656446 q656447 q656448 p656449 p656450 p656451 p656452 p656453 p656454 qo656455 p656456 p656457 p656458 p656459 f656460 f656461 n656462 f656463 n656464) := by
  refine CtA_of hl0 (by decide) (Nat.le_of_ble_eq_true rfl) ?_
  have bp656453 := gB_any p656453
  refine G_aload_n 0 dr_cX14_goal_0 rfl ?_
  refine Gp_get 13 hmq656445 heq656445 dr_cX14_goal_1 (gk_X14 D I) (Nat.le_of_ble_eq_true rfl) wr_9_47 rfl ?_
  refine G_aload_n 0 dr_cX14_goal_4 rfl ?_
  refine Gp_get 12 hmq656445 heq656445 dr_cX14_goal_5 (gk_X14 D I) (Nat.le_of_ble_eq_true rfl) wr_9_46 rfl ?_
  refine Gp_alen (Int32.ofNat n656464) 0 hmq656448 heq656448 dr_cX14_goal_8 rfl rfl (G_nam fun z656477 hz656477 => ?_)
  have ez656477 : z656477.toInt = (n656464 : Nat) := gI_ofM hz656477 (by omega)
  have bz656477 : gB z656477 0 16777216 := ⟨by omega, by omega⟩
  refine G_icmp_ne 46 dr_cX14_goal_9 (by decide +kernel) (fun hc656478 => ?_) (fun hc656478 => ?_)
  · have r656479 : p656459.toInt ≠ z656477.toInt := gC_ne hc656478
    refine G_aload_n 0 dr_cX14_goal_46 rfl ?_
    refine Gp_get 11 hmq656445 heq656445 dr_cX14_goal_47 (gk_X14 D I) (Nat.le_of_ble_eq_true rfl) wr_9_45 rfl ?_
    refine G_aload_n 0 dr_cX14_goal_50 rfl ?_
    refine Gp_get 13 hmq656445 heq656445 dr_cX14_goal_51 (gk_X14 D I) (Nat.le_of_ble_eq_true rfl) wr_9_47 rfl ?_
    refine G_aload_n 0 dr_cX14_goal_54 rfl ?_
    refine Gp_get 4 hmq656445 heq656445 dr_cX14_goal_55 (gk_X14 D I) (Nat.le_of_ble_eq_true rfl) wr_9_36 rfl ?_
    refine Gp_iast 0 hmq656447 heq656447 dr_cX14_goal_58 rfl (gB_inr (by omega) (by omega)) (fun F656480 e656481 n656482 => ?_)
    obtain ⟨f656483, hf656483⟩ : ∃ z, z = upd f656461 p656459.toNatClampNeg p656452 := ⟨_, rfl⟩
    rw [← hf656483] at e656481
    have he656484 : F656480 q656445 = .inr (19, [.ref q656446, .int p656449, .int p656450, .int p656451, .int p656452, .int p656453, .int p656454, .ref qo656455, .int p656456, .int p656457, .int p656458, .ref q656447, .ref q656448, .int p656459]) := (n656482 q656445 (rn_oa heq656445 heq656447)).trans heq656445
    have he656485 : F656480 q656446 = .inl (I .byte, 8192, .inl f656460) := (n656482 q656446 hneq656446q656447).trans heq656446
    have he656486 : F656480 q656448 = .inl (I .int, n656464, .inl f656463) := (n656482 q656448 (Ne.symm hneq656447q656448)).trans heq656448
    have he656487 : F656480 q656447 = .inl (I .int, n656462, .inl f656483) := e656481
    have hfr656488 : rFr [q656447] P656443 F656444 F656480 := rFr_put (rFr_rf (W := []) (P := P656443) (F := F656444)) n656482
    have tp656489 : tP I P656443 F656480 p656451 qo656455 q656448 q656447 := tP_pa x656466 heq656447 (Or.inr rfl) n656482
    refine G_aload_n 0 dr_cX14_goal_59 rfl ?_
    refine G_iconst 3 dr_cX14_goal_60 (by decide +kernel) ?_
    refine Gw_callV (As := [.int 3]) (gV_ok D I) (cp_655704_Reader_want l hl0 D I P656443 F656480 q656445 q656446 3 p656449 p656450 p656451 p656452 p656453 p656454 qo656455 p656456 p656457 p656458 q656447 q656448 p656459 f656460 hmq656445 hmq656446 he656484 he656485 (gB_w (gBl (show Int32.toInt 3 = 3 by decide)) (by decide) (by decide)) bp656449 bp656450 bp656451 bp656452 bp656454 bp656456 bp656457 bp656458 bp656459 bf656460 (by omega) hmq656448 hmq656447 tp656489 x656467) dr_cX14_goal_61 ⟨wr_9_89, wr_1_32, wr_9_92, by decide, rfl, (Nat.le_of_ble_eq_true rfl), (Nat.le_of_ble_eq_true rfl)⟩ wr_9_91 wr_p_80 hmq656445 he656484 rfl (show 0 + ((16 * (p656449.toInt - p656450.toInt)).toNat + 1) ≤ ((16 * (p656449.toInt - p656450.toInt)).toNat + 3) by first | omega | decide) (show 0 + ((160 * (p656449.toInt - p656450.toInt)).toNat + 7) ≤ ((160 * (p656449.toInt - p656450.toInt)).toNat + 4 * n656464 + 7) by first | omega | decide) (Nat.le_of_ble_eq_true rfl) (fun r656493 w656494 dc656490 ds656491 hp656492 => ?_) (fun _ qx656506 _ dc656504 ds656505 hx => by obtain ⟨P656502, F656503, rfl, rfl, hsb656495, hfr656496, hq656497, hqn656498, hwr656499, hdc656500, hds656501⟩ := hx; exact GT_outA rfl (show 0 + dc656504 ≤ ((16 * (p656449.toInt - p656450.toInt)).toNat + 3) by omega) (show 0 + ds656505 ≤ ((160 * (p656449.toInt - p656450.toInt)).toNat + 4 * n656464 + 7) by omega) ⟨P656502, F656503, rfl, rfl, (rSub_tr (rSub_rf (P := P656443)) hsb656495), (rFr_v (show rFr [q656447] P656443 F656444 F656503 from rFr_call (rSub_rf (P := P656443)) hfr656488 hfr656496 (fun b hb hn => ⟨(nm_c (fun e => hn (e ▸ List.mem_cons_self)) nm_n), nm_n⟩)) (fun b hn => (nm_c (fun e => hn (e ▸ List.mem_cons_self)) nm_n))), hq656497, (fun z => hqn656498 ((rSub_rf (P := P656443)) _ z)), hwr656499, (by omega), (by omega)⟩)
    obtain ⟨P656519, F656520, o656507, o656508, o656509, o656510, q656511, rfl, rfl, hsb656521, hfr656522, he656523, he656524, hdc, hds, bo656507, bo656508, bo656509, x656512, x656513, x656514, x656515, x656516, x656517, x656518⟩ := hp656492
    have hm656525 : q656445 ∈ P656519 := hsb656521 q656445 hmq656445
    have hm656526 : q656446 ∈ P656519 := hsb656521 q656446 hmq656446
    have hm656527 : q656447 ∈ P656519 := hsb656521 q656447 hmq656447
    have hm656528 : q656448 ∈ P656519 := hsb656521 q656448 hmq656448
    have hsb656529 : rSub P656443 P656519 := rSub_tr (rSub_rf (P := P656443)) hsb656521
    have he656530 : F656520 q656447 = .inl (I .int, n656462, .inl f656483) := (hfr656522 q656447 hmq656447 (nm_c (rn_ao he656487 he656484) nm_n)).trans he656487
    have he656531 : F656520 q656448 = .inl (I .int, n656464, .inl f656463) := (hfr656522 q656448 hmq656448 (nm_c (rn_ao he656486 he656484) nm_n)).trans he656486
    have hfr656532 : rFr [q656447, q656445] P656443 F656444 F656520 := rFr_call (rSub_rf (P := P656443)) hfr656488 hfr656522 (fun b hb hn => ⟨(nm_c (fun e => hn (e ▸ List.mem_cons_self)) nm_n), (nm_c (fun e => hn (e ▸ (List.mem_cons_of_mem _ List.mem_cons_self))) nm_n)⟩)
    have bo656510 := gB_any o656510
    rw [show Int32.toInt 3 = 3 from by decide] at x656518
    change G _ _ _ _ _ _ _ (.int p656453 :: _) _ _ _
    refine G_widen (cs' := (16 * (o656507.toInt - p656450.toInt)).toNat) (sl' := (160 * (o656507.toInt - p656450.toInt)).toNat) (by omega) (by omega) ?_
    refine G_istore_n (L' := [(1, .int p656453), (0, .ref q656445)]) dr_cX14_goal_64 (Nat.le_of_ble_eq_true rfl) rfl ?_
    refine G_aload_n 1 dr_cX14_goal_65 rfl ?_
    refine Gp_get 12 hm656525 he656523 dr_cX14_goal_66 (gk_X14 D I) (Nat.le_of_ble_eq_true rfl) wr_9_46 rfl ?_
    refine G_aload_n 1 dr_cX14_goal_69 rfl ?_
    refine Gp_get 13 hm656525 he656523 dr_cX14_goal_70 (gk_X14 D I) (Nat.le_of_ble_eq_true rfl) wr_9_47 rfl ?_
    refine G_iload_n 0 dr_cX14_goal_73 rfl ?_
    refine Gp_iast 0 hm656528 he656531 dr_cX14_goal_74 rfl (gB_inr (by omega) (by omega)) (fun F656533 e656534 n656535 => ?_)
    obtain ⟨f656536, hf656536⟩ : ∃ z, z = upd f656463 p656459.toNatClampNeg p656453 := ⟨_, rfl⟩
    rw [← hf656536] at e656534
    have he656537 : F656533 q656447 = .inl (I .int, n656462, .inl f656483) := (n656535 q656447 hneq656447q656448).trans he656530
    have he656538 : F656533 q656445 = .inr (19, [.ref q656446, .int p656449, .int o656507, .int o656508, .int o656509, .int o656510, .int p656451, .ref q656511, .int p656456, .int p656457, .int p656458, .ref q656447, .ref q656448, .int p656459]) := (n656535 q656445 (rn_oa he656523 he656531)).trans he656523
    have he656539 : F656533 q656446 = .inl (I .byte, 8192, .inl f656460) := (n656535 q656446 hneq656446q656448).trans he656524
    have he656540 : F656533 q656448 = .inl (I .int, n656464, .inl f656536) := e656534
    have hfr656541 : rFr [q656448, q656447, q656445] P656443 F656444 F656533 := rFr_put hfr656532 n656535
    have tp656542 : tP I P656519 F656533 o656508 q656511 q656448 q656447 := tP_pa x656515 he656531 (Or.inl rfl) n656535
    refine G_aload_n 1 dr_cX14_goal_75 rfl ?_
    refine G_dup dr_cX14_goal_76 rfl ?_
    refine Gp_get 13 hm656525 he656538 dr_cX14_goal_77 (gk_X14 D I) (Nat.le_of_ble_eq_true rfl) wr_9_47 rfl ?_
    refine G_iconst 1 dr_cX14_goal_80 (by decide +kernel) ?_
    refine G_iadd dr_cX14_goal_81 (G_nam fun z656543 hz656543 => ?_)
    have ez656543 : z656543.toInt = p656459.toInt + 1 := by rw [gI_add hz656543 bp656459 (gBl (show Int32.toInt 1 = 1 by decide)) (by decide) (by decide), show Int32.toInt 1 = 1 from by decide]
    have bz656543 : gB z656543 1 1000001 := gB_add (gI_add hz656543 bp656459 (gBl (show Int32.toInt 1 = 1 by decide)) (by decide) (by decide)) bp656459 (gBl (show Int32.toInt 1 = 1 by decide)) (by decide) (by decide)
    refine Gp_put 13 hm656525 he656538 dr_cX14_goal_82 (gk_X14 D I) (Nat.le_of_ble_eq_true rfl) wr_9_47 rfl rfl rfl (Nat.le_of_ble_eq_true rfl) (fun F656544 e656545 n656546 => ?_)
    have he656547 : F656544 q656447 = .inl (I .int, n656462, .inl f656483) := (n656546 q656447 (rn_ao he656537 he656538)).trans he656537
    have he656548 : F656544 q656448 = .inl (I .int, n656464, .inl f656536) := (n656546 q656448 (rn_ao he656540 he656538)).trans he656540
    have he656549 : F656544 q656446 = .inl (I .byte, 8192, .inl f656460) := (n656546 q656446 (rn_ao he656539 he656538)).trans he656539
    have he656550 : F656544 q656445 = .inr (19, [.ref q656446, .int p656449, .int o656507, .int o656508, .int o656509, .int o656510, .int p656451, .ref q656511, .int p656456, .int p656457, .int p656458, .ref q656447, .ref q656448, .int z656543]) := e656545
    have hfr656551 : rFr [q656448, q656447, q656445] P656443 F656444 F656544 := rFr_put' (List.mem_cons_of_mem _ (List.mem_cons_of_mem _ List.mem_cons_self)) hfr656541 n656546
    have tp656552 : tP I P656519 F656544 o656508 q656511 q656448 q656447 := tP_put tp656542 he656538 (by decide) n656546
    refine G_iload_n 0 dr_cX14_goal_85 rfl ?_
    exact G_iretA dr_cX14_goal_86 rfl (show (16 * (o656507.toInt - p656450.toInt)).toNat ≤ ((16 * (p656449.toInt - p656450.toInt)).toNat + 3) by omega) (show (160 * (o656507.toInt - p656450.toInt)).toNat ≤ ((160 * (p656449.toInt - p656450.toInt)).toNat + 4 * n656464 + 7) by omega) ⟨P656519, F656544, o656507, o656508, o656509, o656510, q656511, z656543, q656447, n656462, f656483, q656448, n656464, f656536, rfl, rfl, hsb656529, hfr656551, he656547, he656548, he656550, he656549, hm656527, (Or.inl rfl), hm656528, (Or.inl rfl), (by omega), (by omega), bo656507, bo656508, bo656509, ⟨by omega, by omega⟩, (by omega), x656513, (by omega), tp656552, x656516, x656517, (by omega), (by omega), (Ne.symm hneq656447q656448), (glC_u hf656536 glC_rf (by omega)), (glL_u hf656536), (glP_u hf656483 x656473 (by first | assumption | exact ⟨by omega, by omega⟩)), (by omega), (by omega), (by omega), (by omega), (by omega), (by omega)⟩
  · have r656553 : p656459.toInt = z656477.toInt := gC_eq hc656478
    have bz656477' : gB z656477 0 1000000 := ⟨by omega, by omega⟩
    refine G_aload_n 0 dr_cX14_goal_12 rfl ?_
    refine G_aload_n 0 dr_cX14_goal_13 rfl ?_
    refine Gp_get 12 hmq656445 heq656445 dr_cX14_goal_14 (gk_X14 D I) (Nat.le_of_ble_eq_true rfl) wr_9_46 rfl ?_
    refine G_iconst 2 dr_cX14_goal_17 (by decide +kernel) ?_
    refine G_aload_n 0 dr_cX14_goal_18 rfl ?_
    refine Gp_get 13 hmq656445 heq656445 dr_cX14_goal_19 (gk_X14 D I) (Nat.le_of_ble_eq_true rfl) wr_9_47 rfl ?_
    refine G_imul dr_cX14_goal_22 (G_nam fun z656554 hz656554 => ?_)
    have ez656554 : z656554.toInt = 2 * p656459.toInt := by rw [gI_mul hz656554 (gBl (show Int32.toInt 2 = 2 by decide)) bp656459 (by decide) (by decide) (by decide), show Int32.toInt 2 = 2 from by decide]
    have bz656554 : gB z656554 0 2000000 := gB_mul hz656554 (gBl (show Int32.toInt 2 = 2 by decide)) bp656459 (by decide) (by decide) (by decide) (by decide)
    refine Gw_callS (As := [.ref q656448, .int z656554]) (gV_ok D I) (cp_656563_Arrays_copyOf l hl0 D I P656443 F656444 q656448 z656554 f656463 n656464 hmq656448 heq656448 ⟨by omega, by omega⟩ (by omega) (by omega)) dr_cX14_goal_23 ⟨wr_10_110, wr_1_30, wr_10_112, by decide, rfl, (Nat.le_of_ble_eq_true rfl), (Nat.le_of_ble_eq_true rfl)⟩ wr_10_111 (show 0 + 1 ≤ ((16 * (p656449.toInt - p656450.toInt)).toNat + 3) by first | omega | decide) (show 0 + z656554.toInt.toNat ≤ ((160 * (p656449.toInt - p656450.toInt)).toNat + 4 * n656464 + 7) by first | omega | decide) (Nat.le_of_ble_eq_true rfl) (fun r656598 w656599 dc656595 ds656596 hp656597 => ?_) (fun _ _ _ _ _ z => z.elim)
    obtain ⟨P656605, F656606, q656600, f656601, rfl, rfl, hsb656607, hfr656608, he656609, he656610, hm656611, hq656612, hdc, hds, x656602, x656603, x656604⟩ := hp656597
    have hm656613 : q656445 ∈ P656605 := hsb656607 q656445 hmq656445
    have hm656614 : q656446 ∈ P656605 := hsb656607 q656446 hmq656446
    have hm656615 : q656447 ∈ P656605 := hsb656607 q656447 hmq656447
    have hm656616 : q656448 ∈ P656605 := hsb656607 q656448 hmq656448
    have hq656617 : q656600 ∉ P656443 := fun z => hq656612 ((rSub_rf (P := P656443)) q656600 z)
    have hsb656618 : rSub P656443 P656605 := rSub_tr (rSub_rf (P := P656443)) hsb656607
    have he656619 : F656606 q656445 = .inr (19, [.ref q656446, .int p656449, .int p656450, .int p656451, .int p656452, .int p656453, .int p656454, .ref qo656455, .int p656456, .int p656457, .int p656458, .ref q656447, .ref q656448, .int p656459]) := (hfr656608 q656445 hmq656445 nm_n).trans heq656445
    have he656620 : F656606 q656446 = .inl (I .byte, 8192, .inl f656460) := (hfr656608 q656446 hmq656446 nm_n).trans heq656446
    have he656621 : F656606 q656447 = .inl (I .int, n656462, .inl f656461) := (hfr656608 q656447 hmq656447 nm_n).trans heq656447
    have hfr656622 : rFr [] P656443 F656444 F656606 := rFr_call (rSub_rf (P := P656443)) (rFr_rf (W := []) (P := P656443) (F := F656444)) hfr656608 (fun b hb hn => ⟨nm_n, nm_n⟩)
    have tp656623 : tP I P656605 F656606 p656451 qo656455 q656448 q656447 := tP_new x656466 hsb656607 (fun b hb => hfr656608 b hb (fun z => by cases z)) (Or.inl rfl) (Or.inl rfl)
    have tp656624 : tP I P656605 F656606 p656451 qo656455 q656600 q656447 := tP_new x656466 hsb656607 (fun b hb => hfr656608 b hb (fun z => by cases z)) (Or.inr hq656612) (Or.inl rfl)
    have tp656625 : tP I P656605 F656606 p656451 qo656455 q656448 q656600 := tP_new x656466 hsb656607 (fun b hb => hfr656608 b hb (fun z => by cases z)) (Or.inl rfl) (Or.inr hq656612)
    change G _ _ _ _ _ _ _ (.ref q656600 :: _) _ _ _
    refine G_widen (cs' := 1) (sl' := z656554.toInt.toNat) (by omega) (by omega) ?_
    refine Gp_put 12 hm656613 he656619 dr_cX14_goal_26 (gk_X14 D I) (Nat.le_of_ble_eq_true rfl) wr_9_46 rfl rfl rfl (Nat.le_of_ble_eq_true rfl) (fun F656626 e656627 n656628 => ?_)
    have he656629 : F656626 q656446 = .inl (I .byte, 8192, .inl f656460) := (n656628 q656446 (rn_ao he656620 he656619)).trans he656620
    have he656630 : F656626 q656447 = .inl (I .int, n656462, .inl f656461) := (n656628 q656447 (rn_ao he656621 he656619)).trans he656621
    have he656631 : F656626 q656448 = .inl (I .int, n656464, .inl f656463) := (n656628 q656448 (rn_ao he656609 he656619)).trans he656609
    have he656632 : F656626 q656600 = .inl (I .int, z656554.toInt.toNat, .inl f656601) := (n656628 q656600 (fun h => hq656617 (h ▸ hmq656445))).trans he656610
    have he656633 : F656626 q656445 = .inr (19, [.ref q656446, .int p656449, .int p656450, .int p656451, .int p656452, .int p656453, .int p656454, .ref qo656455, .int p656456, .int p656457, .int p656458, .ref q656447, .ref q656600, .int p656459]) := e656627
    have hfr656634 : rFr [q656445] P656443 F656444 F656626 := rFr_put hfr656622 n656628
    have tp656635 : tP I P656605 F656626 p656451 qo656455 q656448 q656447 := tP_put tp656623 he656619 (by decide) n656628
    have tp656636 : tP I P656605 F656626 p656451 qo656455 q656600 q656447 := tP_put tp656624 he656619 (by decide) n656628
    have tp656637 : tP I P656605 F656626 p656451 qo656455 q656448 q656600 := tP_put tp656625 he656619 (by decide) n656628
    refine G_aload_n 0 dr_cX14_goal_29 rfl ?_
    refine G_aload_n 0 dr_cX14_goal_30 rfl ?_
    refine Gp_get 11 hm656613 he656633 dr_cX14_goal_31 (gk_X14 D I) (Nat.le_of_ble_eq_true rfl) wr_9_45 rfl ?_
    refine G_iconst 2 dr_cX14_goal_34 (by decide +kernel) ?_
    refine G_aload_n 0 dr_cX14_goal_35 rfl ?_
    refine Gp_get 13 hm656613 he656633 dr_cX14_goal_36 (gk_X14 D I) (Nat.le_of_ble_eq_true rfl) wr_9_47 rfl ?_
    refine G_imul dr_cX14_goal_39 (G_nam fun z656638 hz656638 => ?_)
    have ez656638 : z656638.toInt = 2 * p656459.toInt := by rw [gI_mul hz656638 (gBl (show Int32.toInt 2 = 2 by decide)) bp656459 (by decide) (by decide) (by decide), show Int32.toInt 2 = 2 from by decide]
    have bz656638 : gB z656638 0 2000000 := gB_mul hz656638 (gBl (show Int32.toInt 2 = 2 by decide)) bp656459 (by decide) (by decide) (by decide) (by decide)
    refine Gw_callS (As := [.ref q656447, .int z656638]) (gV_ok D I) (cp_656563_Arrays_copyOf l hl0 D I P656605 F656626 q656447 z656638 f656461 n656462 hm656615 he656630 ⟨by omega, by omega⟩ (by omega) (by omega)) dr_cX14_goal_40 ⟨wr_10_110, wr_1_30, wr_10_112, by decide, rfl, (Nat.le_of_ble_eq_true rfl), (Nat.le_of_ble_eq_true rfl)⟩ wr_10_111 (show 1 + 1 ≤ ((16 * (p656449.toInt - p656450.toInt)).toNat + 3) by first | omega | decide) (show z656554.toInt.toNat + z656638.toInt.toNat ≤ ((160 * (p656449.toInt - p656450.toInt)).toNat + 4 * n656464 + 7) by first | omega | decide) (Nat.le_of_ble_eq_true rfl) (fun r656642 w656643 dc656639 ds656640 hp656641 => ?_) (fun _ _ _ _ _ z => z.elim)
    obtain ⟨P656649, F656650, q656644, f656645, rfl, rfl, hsb656651, hfr656652, he656653, he656654, hm656655, hq656656, hdc, hds, x656646, x656647, x656648⟩ := hp656641
    have hm656657 : q656445 ∈ P656649 := hsb656651 q656445 hm656613
    have hm656658 : q656446 ∈ P656649 := hsb656651 q656446 hm656614
    have hm656659 : q656447 ∈ P656649 := hsb656651 q656447 hm656615
    have hm656660 : q656448 ∈ P656649 := hsb656651 q656448 hm656616
    have hm656661 : q656600 ∈ P656649 := hsb656651 q656600 hm656611
    have hq656662 : q656644 ∉ P656443 := fun z => hq656656 (hsb656618 q656644 z)
    have hsb656663 : rSub P656443 P656649 := rSub_tr hsb656618 hsb656651
    have he656664 : F656650 q656445 = .inr (19, [.ref q656446, .int p656449, .int p656450, .int p656451, .int p656452, .int p656453, .int p656454, .ref qo656455, .int p656456, .int p656457, .int p656458, .ref q656447, .ref q656600, .int p656459]) := (hfr656652 q656445 hm656613 nm_n).trans he656633
    have he656665 : F656650 q656446 = .inl (I .byte, 8192, .inl f656460) := (hfr656652 q656446 hm656614 nm_n).trans he656629
    have he656666 : F656650 q656448 = .inl (I .int, n656464, .inl f656463) := (hfr656652 q656448 hm656616 nm_n).trans he656631
    have he656667 : F656650 q656600 = .inl (I .int, z656554.toInt.toNat, .inl f656601) := (hfr656652 q656600 hm656611 nm_n).trans he656632
    have hfr656668 : rFr [q656445] P656443 F656444 F656650 := rFr_call hsb656618 hfr656634 hfr656652 (fun b hb hn => ⟨(nm_c (fun e => hn (e ▸ List.mem_cons_self)) nm_n), nm_n⟩)
    have tp656669 : tP I P656649 F656650 p656451 qo656455 q656448 q656447 := tP_new tp656635 hsb656651 (fun b hb => hfr656652 b hb (fun z => by cases z)) (Or.inl rfl) (Or.inl rfl)
    have tp656670 : tP I P656649 F656650 p656451 qo656455 q656644 q656447 := tP_new tp656635 hsb656651 (fun b hb => hfr656652 b hb (fun z => by cases z)) (Or.inr hq656656) (Or.inl rfl)
    have tp656671 : tP I P656649 F656650 p656451 qo656455 q656448 q656644 := tP_new tp656635 hsb656651 (fun b hb => hfr656652 b hb (fun z => by cases z)) (Or.inl rfl) (Or.inr hq656656)
    have tp656672 : tP I P656649 F656650 p656451 qo656455 q656600 q656447 := tP_new tp656636 hsb656651 (fun b hb => hfr656652 b hb (fun z => by cases z)) (Or.inl rfl) (Or.inl rfl)
    have tp656673 : tP I P656649 F656650 p656451 qo656455 q656644 q656447 := tP_new tp656636 hsb656651 (fun b hb => hfr656652 b hb (fun z => by cases z)) (Or.inr hq656656) (Or.inl rfl)
    have tp656674 : tP I P656649 F656650 p656451 qo656455 q656600 q656644 := tP_new tp656636 hsb656651 (fun b hb => hfr656652 b hb (fun z => by cases z)) (Or.inl rfl) (Or.inr hq656656)
    have tp656675 : tP I P656649 F656650 p656451 qo656455 q656448 q656600 := tP_new tp656637 hsb656651 (fun b hb => hfr656652 b hb (fun z => by cases z)) (Or.inl rfl) (Or.inl rfl)
    have tp656676 : tP I P656649 F656650 p656451 qo656455 q656644 q656600 := tP_new tp656637 hsb656651 (fun b hb => hfr656652 b hb (fun z => by cases z)) (Or.inr hq656656) (Or.inl rfl)
    have tp656677 : tP I P656649 F656650 p656451 qo656455 q656448 q656644 := tP_new tp656637 hsb656651 (fun b hb => hfr656652 b hb (fun z => by cases z)) (Or.inl rfl) (Or.inr hq656656)
    have hne656678 : q656600 ≠ q656644 := fun h => hq656656 (h ▸ hm656611)
    change G _ _ _ _ _ _ _ (.ref q656644 :: _) _ _ _
    refine G_widen (cs' := 2) (sl' := z656554.toInt.toNat + z656638.toInt.toNat) (by omega) (by omega) ?_
    refine Gp_put 11 hm656657 he656664 dr_cX14_goal_43 (gk_X14 D I) (Nat.le_of_ble_eq_true rfl) wr_9_45 rfl rfl rfl (Nat.le_of_ble_eq_true rfl) (fun F656679 e656680 n656681 => ?_)
    have he656682 : F656679 q656446 = .inl (I .byte, 8192, .inl f656460) := (n656681 q656446 (rn_ao he656665 he656664)).trans he656665
    have he656683 : F656679 q656448 = .inl (I .int, n656464, .inl f656463) := (n656681 q656448 (rn_ao he656666 he656664)).trans he656666
    have he656684 : F656679 q656600 = .inl (I .int, z656554.toInt.toNat, .inl f656601) := (n656681 q656600 (fun h => hq656617 (h ▸ hmq656445))).trans he656667
    have he656685 : F656679 q656447 = .inl (I .int, n656462, .inl f656461) := (n656681 q656447 (rn_ao he656653 he656664)).trans he656653
    have he656686 : F656679 q656644 = .inl (I .int, z656638.toInt.toNat, .inl f656645) := (n656681 q656644 (fun h => hq656662 (h ▸ hmq656445))).trans he656654
    have he656687 : F656679 q656445 = .inr (19, [.ref q656446, .int p656449, .int p656450, .int p656451, .int p656452, .int p656453, .int p656454, .ref qo656455, .int p656456, .int p656457, .int p656458, .ref q656644, .ref q656600, .int p656459]) := e656680
    have hfr656688 : rFr [q656445] P656443 F656444 F656679 := rFr_put' List.mem_cons_self hfr656668 n656681
    have tp656689 : tP I P656649 F656679 p656451 qo656455 q656448 q656447 := tP_put tp656669 he656664 (by decide) n656681
    have tp656690 : tP I P656649 F656679 p656451 qo656455 q656644 q656447 := tP_put tp656670 he656664 (by decide) n656681
    have tp656691 : tP I P656649 F656679 p656451 qo656455 q656448 q656644 := tP_put tp656671 he656664 (by decide) n656681
    have tp656692 : tP I P656649 F656679 p656451 qo656455 q656600 q656447 := tP_put tp656672 he656664 (by decide) n656681
    have tp656693 : tP I P656649 F656679 p656451 qo656455 q656644 q656447 := tP_put tp656673 he656664 (by decide) n656681
    have tp656694 : tP I P656649 F656679 p656451 qo656455 q656600 q656644 := tP_put tp656674 he656664 (by decide) n656681
    have tp656695 : tP I P656649 F656679 p656451 qo656455 q656448 q656600 := tP_put tp656675 he656664 (by decide) n656681
    have tp656696 : tP I P656649 F656679 p656451 qo656455 q656644 q656600 := tP_put tp656676 he656664 (by decide) n656681
    have tp656697 : tP I P656649 F656679 p656451 qo656455 q656448 q656644 := tP_put tp656677 he656664 (by decide) n656681
    refine G_aload_n 0 dr_cX14_goal_46 rfl ?_
    refine Gp_get 11 hm656657 he656687 dr_cX14_goal_47 (gk_X14 D I) (Nat.le_of_ble_eq_true rfl) wr_9_45 rfl ?_
    refine G_aload_n 0 dr_cX14_goal_50 rfl ?_
    refine Gp_get 13 hm656657 he656687 dr_cX14_goal_51 (gk_X14 D I) (Nat.le_of_ble_eq_true rfl) wr_9_47 rfl ?_
    refine G_aload_n 0 dr_cX14_goal_54 rfl ?_
    refine Gp_get 4 hm656657 he656687 dr_cX14_goal_55 (gk_X14 D I) (Nat.le_of_ble_eq_true rfl) wr_9_36 rfl ?_
    refine Gp_iast 0 hm656655 he656686 dr_cX14_goal_58 rfl (gB_inr (by omega) (by omega)) (fun F656698 e656699 n656700 => ?_)
    obtain ⟨f656701, hf656701⟩ : ∃ z, z = upd f656645 p656459.toNatClampNeg p656452 := ⟨_, rfl⟩
    rw [← hf656701] at e656699
    have he656702 : F656698 q656445 = .inr (19, [.ref q656446, .int p656449, .int p656450, .int p656451, .int p656452, .int p656453, .int p656454, .ref qo656455, .int p656456, .int p656457, .int p656458, .ref q656644, .ref q656600, .int p656459]) := (n656700 q656445 (fun h => hq656662 (h ▸ hmq656445))).trans he656687
    have he656703 : F656698 q656446 = .inl (I .byte, 8192, .inl f656460) := (n656700 q656446 (fun h => hq656662 (h ▸ hmq656446))).trans he656682
    have he656704 : F656698 q656448 = .inl (I .int, n656464, .inl f656463) := (n656700 q656448 (fun h => hq656662 (h ▸ hmq656448))).trans he656683
    have he656705 : F656698 q656600 = .inl (I .int, z656554.toInt.toNat, .inl f656601) := (n656700 q656600 hne656678).trans he656684
    have he656706 : F656698 q656447 = .inl (I .int, n656462, .inl f656461) := (n656700 q656447 (fun h => hq656662 (h ▸ hmq656447))).trans he656685
    have he656707 : F656698 q656644 = .inl (I .int, z656638.toInt.toNat, .inl f656701) := e656699
    have hfr656708 : rFr [q656445] P656443 F656444 F656698 := rFr_newp hq656662 hfr656688 n656700
    have tp656710 : tP I P656649 F656698 p656451 qo656455 q656644 q656447 := tP_pa tp656690 he656686 (Or.inl rfl) n656700
    have tp656711 : tP I P656649 F656698 p656451 qo656455 q656448 q656644 := tP_pa tp656691 he656686 (Or.inr rfl) n656700
    have tp656713 : tP I P656649 F656698 p656451 qo656455 q656644 q656447 := tP_pa tp656693 he656686 (Or.inl rfl) n656700
    have tp656714 : tP I P656649 F656698 p656451 qo656455 q656600 q656644 := tP_pa tp656694 he656686 (Or.inr rfl) n656700
    have tp656716 : tP I P656649 F656698 p656451 qo656455 q656644 q656600 := tP_pa tp656696 he656686 (Or.inl rfl) n656700
    have tp656717 : tP I P656649 F656698 p656451 qo656455 q656448 q656644 := tP_pa tp656697 he656686 (Or.inr rfl) n656700
    refine G_aload_n 0 dr_cX14_goal_59 rfl ?_
    refine G_iconst 3 dr_cX14_goal_60 (by decide +kernel) ?_
    refine Gw_callV (As := [.int 3]) (gV_ok D I) (cp_655704_Reader_want l hl0 D I P656649 F656698 q656445 q656446 3 p656449 p656450 p656451 p656452 p656453 p656454 qo656455 p656456 p656457 p656458 q656644 q656600 p656459 f656460 hm656657 hm656658 he656702 he656703 (gB_w (gBl (show Int32.toInt 3 = 3 by decide)) (by decide) (by decide)) bp656449 bp656450 bp656451 bp656452 bp656454 bp656456 bp656457 bp656458 bp656459 bf656460 (by omega) hm656661 hm656655 tp656714 x656467) dr_cX14_goal_61 ⟨wr_9_89, wr_1_32, wr_9_92, by decide, rfl, (Nat.le_of_ble_eq_true rfl), (Nat.le_of_ble_eq_true rfl)⟩ wr_9_91 wr_p_80 hm656657 he656702 rfl (show 2 + ((16 * (p656449.toInt - p656450.toInt)).toNat + 1) ≤ ((16 * (p656449.toInt - p656450.toInt)).toNat + 3) by first | omega | decide) (show z656554.toInt.toNat + z656638.toInt.toNat + ((160 * (p656449.toInt - p656450.toInt)).toNat + 7) ≤ ((160 * (p656449.toInt - p656450.toInt)).toNat + 4 * n656464 + 7) by first | omega | decide) (Nat.le_of_ble_eq_true rfl) (fun r656721 w656722 dc656718 ds656719 hp656720 => ?_) (fun _ qx656734 _ dc656732 ds656733 hx => by obtain ⟨P656730, F656731, rfl, rfl, hsb656723, hfr656724, hq656725, hqn656726, hwr656727, hdc656728, hds656729⟩ := hx; exact GT_outA rfl (show 2 + dc656732 ≤ ((16 * (p656449.toInt - p656450.toInt)).toNat + 3) by omega) (show z656554.toInt.toNat + z656638.toInt.toNat + ds656733 ≤ ((160 * (p656449.toInt - p656450.toInt)).toNat + 4 * n656464 + 7) by omega) ⟨P656730, F656731, rfl, rfl, (rSub_tr hsb656663 hsb656723), (rFr_v (show rFr [q656445] P656443 F656444 F656731 from rFr_call hsb656663 hfr656708 hfr656724 (fun b hb hn => ⟨(nm_c (fun e => hn (e ▸ List.mem_cons_self)) nm_n), nm_n⟩)) (fun b hn => (nm_c (fun e => hn (e ▸ (List.mem_cons_of_mem _ List.mem_cons_self))) nm_n))), hq656725, (fun z => hqn656726 (hsb656663 _ z)), hwr656727, (by omega), (by omega)⟩)
    obtain ⟨P656747, F656748, o656735, o656736, o656737, o656738, q656739, rfl, rfl, hsb656749, hfr656750, he656751, he656752, hdc, hds, bo656735, bo656736, bo656737, x656740, x656741, x656742, x656743, x656744, x656745, x656746⟩ := hp656720
    have hm656753 : q656445 ∈ P656747 := hsb656749 q656445 hm656657
    have hm656754 : q656446 ∈ P656747 := hsb656749 q656446 hm656658
    have hm656755 : q656447 ∈ P656747 := hsb656749 q656447 hm656659
    have hm656756 : q656448 ∈ P656747 := hsb656749 q656448 hm656660
    have hm656757 : q656600 ∈ P656747 := hsb656749 q656600 hm656661
    have hm656758 : q656644 ∈ P656747 := hsb656749 q656644 hm656655
    have hsb656759 : rSub P656443 P656747 := rSub_tr hsb656663 hsb656749
    have he656760 : F656748 q656448 = .inl (I .int, n656464, .inl f656463) := (hfr656750 q656448 hm656660 (nm_c (rn_ao he656704 he656702) nm_n)).trans he656704
    have he656761 : F656748 q656600 = .inl (I .int, z656554.toInt.toNat, .inl f656601) := (hfr656750 q656600 hm656661 (nm_c (fun h => hq656617 (h ▸ hmq656445)) nm_n)).trans he656705
    have he656762 : F656748 q656447 = .inl (I .int, n656462, .inl f656461) := (hfr656750 q656447 hm656659 (nm_c (rn_ao he656706 he656702) nm_n)).trans he656706
    have he656763 : F656748 q656644 = .inl (I .int, z656638.toInt.toNat, .inl f656701) := (hfr656750 q656644 hm656655 (nm_c (fun h => hq656662 (h ▸ hmq656445)) nm_n)).trans he656707
    have hfr656764 : rFr [q656445] P656443 F656444 F656748 := rFr_call hsb656663 hfr656708 hfr656750 (fun b hb hn => ⟨(nm_c (fun e => hn (e ▸ List.mem_cons_self)) nm_n), (nm_c (fun e => hn (e ▸ List.mem_cons_self)) nm_n)⟩)
    have bo656738 := gB_any o656738
    rw [show Int32.toInt 3 = 3 from by decide] at x656746
    change G _ _ _ _ _ _ _ (.int p656453 :: _) _ _ _
    refine G_widen (cs' := 2 + ((16 * (o656735.toInt - p656450.toInt)).toNat)) (sl' := z656554.toInt.toNat + z656638.toInt.toNat + ((160 * (o656735.toInt - p656450.toInt)).toNat)) (by omega) (by omega) ?_
    refine G_istore_n (L' := [(1, .int p656453), (0, .ref q656445)]) dr_cX14_goal_64 (Nat.le_of_ble_eq_true rfl) rfl ?_
    refine G_aload_n 1 dr_cX14_goal_65 rfl ?_
    refine Gp_get 12 hm656753 he656751 dr_cX14_goal_66 (gk_X14 D I) (Nat.le_of_ble_eq_true rfl) wr_9_46 rfl ?_
    refine G_aload_n 1 dr_cX14_goal_69 rfl ?_
    refine Gp_get 13 hm656753 he656751 dr_cX14_goal_70 (gk_X14 D I) (Nat.le_of_ble_eq_true rfl) wr_9_47 rfl ?_
    refine G_iload_n 0 dr_cX14_goal_73 rfl ?_
    refine Gp_iast 0 hm656757 he656761 dr_cX14_goal_74 rfl (gB_inr (by omega) (by omega)) (fun F656765 e656766 n656767 => ?_)
    obtain ⟨f656768, hf656768⟩ : ∃ z, z = upd f656601 p656459.toNatClampNeg p656453 := ⟨_, rfl⟩
    rw [← hf656768] at e656766
    have he656769 : F656765 q656448 = .inl (I .int, n656464, .inl f656463) := (n656767 q656448 (fun h => hq656617 (h ▸ hmq656448))).trans he656760
    have he656770 : F656765 q656447 = .inl (I .int, n656462, .inl f656461) := (n656767 q656447 (fun h => hq656617 (h ▸ hmq656447))).trans he656762
    have he656771 : F656765 q656644 = .inl (I .int, z656638.toInt.toNat, .inl f656701) := (n656767 q656644 (Ne.symm hne656678)).trans he656763
    have he656772 : F656765 q656445 = .inr (19, [.ref q656446, .int p656449, .int o656735, .int o656736, .int o656737, .int o656738, .int p656451, .ref q656739, .int p656456, .int p656457, .int p656458, .ref q656644, .ref q656600, .int p656459]) := (n656767 q656445 (fun h => hq656617 (h ▸ hmq656445))).trans he656751
    have he656773 : F656765 q656446 = .inl (I .byte, 8192, .inl f656460) := (n656767 q656446 (fun h => hq656617 (h ▸ hmq656446))).trans he656752
    have he656774 : F656765 q656600 = .inl (I .int, z656554.toInt.toNat, .inl f656768) := e656766
    have hfr656775 : rFr [q656445] P656443 F656444 F656765 := rFr_newp hq656617 hfr656764 n656767
    have tp656776 : tP I P656747 F656765 o656736 q656739 q656600 q656644 := tP_pa x656743 he656761 (Or.inl rfl) n656767
    refine G_aload_n 1 dr_cX14_goal_75 rfl ?_
    refine G_dup dr_cX14_goal_76 rfl ?_
    refine Gp_get 13 hm656753 he656772 dr_cX14_goal_77 (gk_X14 D I) (Nat.le_of_ble_eq_true rfl) wr_9_47 rfl ?_
    refine G_iconst 1 dr_cX14_goal_80 (by decide +kernel) ?_
    refine G_iadd dr_cX14_goal_81 (G_nam fun z656777 hz656777 => ?_)
    have ez656777 : z656777.toInt = p656459.toInt + 1 := by rw [gI_add hz656777 bp656459 (gBl (show Int32.toInt 1 = 1 by decide)) (by decide) (by decide), show Int32.toInt 1 = 1 from by decide]
    have bz656777 : gB z656777 1 1000001 := gB_add (gI_add hz656777 bp656459 (gBl (show Int32.toInt 1 = 1 by decide)) (by decide) (by decide)) bp656459 (gBl (show Int32.toInt 1 = 1 by decide)) (by decide) (by decide)
    refine Gp_put 13 hm656753 he656772 dr_cX14_goal_82 (gk_X14 D I) (Nat.le_of_ble_eq_true rfl) wr_9_47 rfl rfl rfl (Nat.le_of_ble_eq_true rfl) (fun F656778 e656779 n656780 => ?_)
    have he656781 : F656778 q656448 = .inl (I .int, n656464, .inl f656463) := (n656780 q656448 (rn_ao he656769 he656772)).trans he656769
    have he656782 : F656778 q656600 = .inl (I .int, z656554.toInt.toNat, .inl f656768) := (n656780 q656600 (fun h => hq656617 (h ▸ hmq656445))).trans he656774
    have he656783 : F656778 q656447 = .inl (I .int, n656462, .inl f656461) := (n656780 q656447 (rn_ao he656770 he656772)).trans he656770
    have he656784 : F656778 q656644 = .inl (I .int, z656638.toInt.toNat, .inl f656701) := (n656780 q656644 (fun h => hq656662 (h ▸ hmq656445))).trans he656771
    have he656785 : F656778 q656446 = .inl (I .byte, 8192, .inl f656460) := (n656780 q656446 (rn_ao he656773 he656772)).trans he656773
    have he656786 : F656778 q656445 = .inr (19, [.ref q656446, .int p656449, .int o656735, .int o656736, .int o656737, .int o656738, .int p656451, .ref q656739, .int p656456, .int p656457, .int p656458, .ref q656644, .ref q656600, .int z656777]) := e656779
    have hfr656787 : rFr [q656445] P656443 F656444 F656778 := rFr_put' List.mem_cons_self hfr656775 n656780
    have tp656788 : tP I P656747 F656778 o656736 q656739 q656600 q656644 := tP_put tp656776 he656772 (by decide) n656780
    refine G_iload_n 0 dr_cX14_goal_85 rfl ?_
    exact G_iretA dr_cX14_goal_86 rfl (show 2 + ((16 * (o656735.toInt - p656450.toInt)).toNat) ≤ ((16 * (p656449.toInt - p656450.toInt)).toNat + 3) by omega) (show z656554.toInt.toNat + z656638.toInt.toNat + ((160 * (o656735.toInt - p656450.toInt)).toNat) ≤ ((160 * (p656449.toInt - p656450.toInt)).toNat + 4 * n656464 + 7) by omega) ⟨P656747, F656778, o656735, o656736, o656737, o656738, q656739, z656777, q656644, z656638.toInt.toNat, f656701, q656600, z656554.toInt.toNat, f656768, rfl, rfl, hsb656759, (rFr_v hfr656787 (fun b hn => (nm_c (fun e => hn (e ▸ (List.mem_cons_of_mem _ (List.mem_cons_of_mem _ List.mem_cons_self)))) nm_n))), he656784, he656782, he656786, he656785, hm656758, (Or.inr hq656662), hm656757, (Or.inr hq656617), (by omega), (by omega), bo656735, bo656736, bo656737, ⟨by omega, by omega⟩, (by omega), x656741, (by omega), tp656788, x656744, x656745, (by omega), (by omega), hne656678, (glC_u hf656768 (glC_tr glC_rf x656603 (show p656459.toInt ≤ p656459.toInt from Int.le_refl _) (by omega)) (by omega)), (glL_u hf656768), (glP_u hf656701 (glP_b x656648 x656473) (by first | assumption | exact ⟨by omega, by omega⟩)), (by omega), (by omega), (by omega), (by omega), (by omega), (by omega)⟩
abbrev ky_656839_Reader_row : gKey := (cX14_row, 2, "SpillForgeModel$Reader", none, [], "row", fun _ _ => True)
def pp_656839_Reader_row (D : va_G) (I : FieldType → ClassId) (P656805 : List Nat) (F656806 : Nat → va_E) (q656807 : Nat) (q656808 : Nat) (q656809 : Nat) (p656810 : Int32) (p656811 : Int32) (p656812 : Int32) (p656813 : Int32) (p656814 : Int32) (p656815 : Int32) (qo656816 : Nat) (p656817 : Int32) (p656818 : Int32) (p656819 : Int32) (qo656820 : Nat) (qo656821 : Nat) (p656822 : Int32) (p656823 : Int32) (p656824 : Int32) (p656825 : Int32) (p656826 : Int32) (p656827 : Int32) (p656828 : Int32) (p656829 : Int32) (f656830 : Nat → Int32) : Option Value → va_W → Nat → Nat → Prop := fun r w dc ds => ∃ (P657298 : List Nat) (F657299 : Nat → va_E) (o657286 : Int32) (o657287 : Int32) (o657288 : Int32) (o657289 : Int32) (o657290 : Int32) (q657291 : Nat) (o657292 : Int32) (o657293 : Int32) (o657294 : Int32) (o657295 : Int32) (o657296 : Int32) (o657297 : Int32), r = none ∧ w = va_pl P657298 F657299 ∧ rSub P656805 P657298 ∧ rFr [q656808, q656807] P656805 F656806 F657299 ∧ F657299 q656808 = .inr (20, [.int o657292, .int o657293, .int o657294, .int o657295, .int p656827, .int o657296, .int o657297]) ∧ F657299 q656807 = .inr (19, [.ref q656809, .int p656810, .int o657286, .int o657287, .int o657288, .int o657289, .int o657290, .ref q657291, .int p656817, .int p656818, .int p656819, .ref qo656820, .ref qo656821, .int p656822]) ∧ F657299 q656809 = .inl (I .byte, 8192, .inl f656830) ∧ dc ≤ (16 * (o657286.toInt - p656811.toInt)).toNat + 8 ∧ ds ≤ (160 * (o657286.toInt - p656811.toInt)).toNat + 64 ∧ gB o657286 0 8192 ∧ gB o657287 0 6 ∧ gB o657288 0 8192 ∧ gB o657290 0 6 ∧ gB o657292 0 22 ∧ gB o657293 0 1999 ∧ gB o657296 0 1 ∧ gB o657297 0 1 ∧ p656811.toInt ≤ o657286.toInt ∧ prP o657287 p656811 o657286 ∧ o657286.toInt ≤ p656810.toInt ∧ tP I P657298 F657299 o657287 q657291 qo656821 qo656820 ∧ vP o657287 o657289 ∧ rwP o657296 o657294 ∧ rwP o657297 o657295 ∧ opP o657292 ∧ opQ o657292 ∧ nzK p656812 ∧ rwQ p656811 o657286 o657287
def xp_656839_Reader_row (D : va_G) (I : FieldType → ClassId) (P656805 : List Nat) (F656806 : Nat → va_E) (q656807 : Nat) (q656808 : Nat) (q656809 : Nat) (p656810 : Int32) (p656811 : Int32) (p656812 : Int32) (p656813 : Int32) (p656814 : Int32) (p656815 : Int32) (qo656816 : Nat) (p656817 : Int32) (p656818 : Int32) (p656819 : Int32) (qo656820 : Nat) (qo656821 : Nat) (p656822 : Int32) (p656823 : Int32) (p656824 : Int32) (p656825 : Int32) (p656826 : Int32) (p656827 : Int32) (p656828 : Int32) (p656829 : Int32) (f656830 : Nat → Int32) : String → Nat → va_W → Nat → Nat → Prop := fun E q w dc ds => ∃ (P657301 : List Nat) (F657300 : Nat → va_E), E = "SpillForgeModel$Wrong" ∧ w = va_pl P657301 F657300 ∧ rSub P656805 P657301 ∧ rFr [q656808, q656807] P656805 F656806 F657300 ∧ q ∈ P657301 ∧ q ∉ P656805 ∧ wrF F657300 q ∧ dc ≤ (16 * (p656810.toInt - p656811.toInt)).toNat + 9 ∧ ds ≤ (160 * (p656810.toInt - p656811.toInt)).toNat + 71 ∧ rkR (F657300 q656808)
set_option maxRecDepth 100000 in
set_option maxHeartbeats 4000000 in
theorem cp_656839_Reader_row (l : Launch) (hl0 : l.stackTraces = false) (D : va_G) (I : FieldType → ClassId) (P656805 : List Nat) (F656806 : Nat → va_E) (q656807 : Nat) (q656808 : Nat) (q656809 : Nat) (p656810 : Int32) (p656811 : Int32) (p656812 : Int32) (p656813 : Int32) (p656814 : Int32) (p656815 : Int32) (qo656816 : Nat) (p656817 : Int32) (p656818 : Int32) (p656819 : Int32) (qo656820 : Nat) (qo656821 : Nat) (p656822 : Int32) (p656823 : Int32) (p656824 : Int32) (p656825 : Int32) (p656826 : Int32) (p656827 : Int32) (p656828 : Int32) (p656829 : Int32) (f656830 : Nat → Int32) (hmq656807 : q656807 ∈ P656805) (hmq656808 : q656808 ∈ P656805) (hmq656809 : q656809 ∈ P656805) (heq656807 : F656806 q656807 = .inr (19, [.ref q656809, .int p656810, .int p656811, .int p656812, .int p656813, .int p656814, .int p656815, .ref qo656816, .int p656817, .int p656818, .int p656819, .ref qo656820, .ref qo656821, .int p656822])) (heq656808 : F656806 q656808 = .inr (20, [.int p656823, .int p656824, .int p656825, .int p656826, .int p656827, .int p656828, .int p656829])) (heq656809 : F656806 q656809 = .inl (I .byte, 8192, .inl f656830)) (bp656810 : gB p656810 0 8192) (bp656811 : gB p656811 0 8192) (bp656812 : gB p656812 0 6) (bp656813 : gB p656813 0 8192) (bp656815 : gB p656815 0 6) (bp656817 : gB p656817 (-1) 8192) (bp656818 : gB p656818 0 4) (bp656819 : gB p656819 0 1000000) (bp656822 : gB p656822 0 1000000) (bp656823 : gB p656823 0 32) (bp656824 : gB p656824 0 1999) (bp656827 : gB p656827 0 1999) (bp656828 : gB p656828 0 1) (bp656829 : gB p656829 0 1) (bf656830 : gF f656830 (-128) 127) (x656831 : p656811.toInt ≤ p656810.toInt) (x656832 : qo656821 ∈ P656805) (x656833 : qo656820 ∈ P656805) (x656834 : tP I P656805 F656806 p656812 qo656816 qo656821 qo656820) (x656835 : vP p656812 p656814) (x656836 : rwP p656828 p656825) (x656837 : rwP p656829 p656826) (x656838 : opP p656823) : CtA (gV D I) l yX14_row cX14_row 2 none 9 200 ((16 * (p656810.toInt - p656811.toInt)).toNat + 9) ((160 * (p656810.toInt - p656811.toInt)).toNat + 71) [.ref q656807, .ref q656808] (va_pl P656805 F656806) (pp_656839_Reader_row D I P656805 F656806 q656807 q656808 q656809 p656810 p656811 p656812 p656813 p656814 p656815 qo656816 p656817 p656818 p656819 qo656820 qo656821 p656822 p656823 p656824 p656825 p656826 p656827 p656828 p656829 f656830) (xp_656839_Reader_row D I P656805 F656806 q656807 q656808 q656809 p656810 p656811 p656812 p656813 p656814 p656815 qo656816 p656817 p656818 p656819 qo656820 qo656821 p656822 p656823 p656824 p656825 p656826 p656827 p656828 p656829 f656830) := by
  refine CtA_of hl0 (by decide) (Nat.le_of_ble_eq_true rfl) ?_
  have bp656814 := gB_any p656814
  have bp656825 := gB_any p656825
  have bp656826 := gB_any p656826
  refine G_aload_n 0 dr_cX14_row_0 rfl ?_
  refine G_ldcK (a := D.2 1000 39) dr_cX14_row_1 (fun _ _ _ h => gx_vk 39 rfl rfl h) ?_
  have hl39_656839 : (sb_39.length : Int) = 4 := rfl
  refine Gw_callV (As := [.ref (D.2 1000 39)]) (gV_ok D I) (cp_655533_Reader_is l hl0 D I P656805 F656806 q656807 q656809 (D.2 1000 39) (D.2 1001 39) sb_39 p656810 p656811 p656812 p656813 p656814 p656815 qo656816 p656817 p656818 p656819 qo656820 qo656821 p656822 f656830 hmq656807 hmq656809 heq656807 heq656809 (gx_sc 39 rfl rfl) (by omega) (by decide +kernel) bp656810 bp656811 bp656812 bp656813 bp656815 bp656817 bp656818 bp656819 bp656822 bf656830 x656834) dr_cX14_row_3 ⟨wr_9_137, wr_1_32, wr_9_140, by decide, rfl, (Nat.le_of_ble_eq_true rfl), (Nat.le_of_ble_eq_true rfl)⟩ wr_9_139 wr_p_84 hmq656807 heq656807 rfl (show 0 + 0 ≤ ((16 * (p656810.toInt - p656811.toInt)).toNat + 9) by first | omega | decide) (show 0 + 0 ≤ ((160 * (p656810.toInt - p656811.toInt)).toNat + 71) by first | omega | decide) (Nat.le_of_ble_eq_true rfl) (fun r656844 w656845 dc656841 ds656842 hp656843 => ?_) (fun _ _ _ _ _ z => z.elim)
  obtain ⟨o656846, rfl, rfl, hdc, hds, bo656846, x656847⟩ := hp656843
  change G _ _ _ _ _ _ _ (.int o656846 :: _) _ _ _
  refine G_widen (cs' := 0) (sl' := 0) (by omega) (by omega) ?_
  refine G_if_eq 26 dr_cX14_row_6 (by decide +kernel) (fun hc656848 => ?_) (fun hc656848 => ?_)
  · have r656849 : o656846.toInt = 0 := gj_eq hc656848 (show Int32.toInt 0 = 0 by decide)
    have bo656846' : gB o656846 0 0 := ⟨by omega, by omega⟩
    refine G_aload_n 1 dr_cX14_row_26 rfl ?_
    refine G_aload_n 0 dr_cX14_row_27 rfl ?_
    refine G_iconst 2 dr_cX14_row_28 (by decide +kernel) ?_
    refine Gw_callV (As := [.int 2]) (gV_ok D I) (cp_655704_Reader_want l hl0 D I P656805 F656806 q656807 q656809 2 p656810 p656811 p656812 p656813 p656814 p656815 qo656816 p656817 p656818 p656819 qo656820 qo656821 p656822 f656830 hmq656807 hmq656809 heq656807 heq656809 (gB_w (gBl (show Int32.toInt 2 = 2 by decide)) (by decide) (by decide)) bp656810 bp656811 bp656812 bp656813 bp656815 bp656817 bp656818 bp656819 bp656822 bf656830 (by omega) x656832 x656833 x656834 x656835) dr_cX14_row_29 ⟨wr_9_89, wr_1_32, wr_9_92, by decide, rfl, (Nat.le_of_ble_eq_true rfl), (Nat.le_of_ble_eq_true rfl)⟩ wr_9_91 wr_p_80 hmq656807 heq656807 rfl (show 0 + ((16 * (p656810.toInt - p656811.toInt)).toNat + 1) ≤ ((16 * (p656810.toInt - p656811.toInt)).toNat + 9) by first | omega | decide) (show 0 + ((160 * (p656810.toInt - p656811.toInt)).toNat + 7) ≤ ((160 * (p656810.toInt - p656811.toInt)).toNat + 71) by first | omega | decide) (Nat.le_of_ble_eq_true rfl) (fun r656853 w656854 dc656850 ds656851 hp656852 => ?_) (fun _ qx656866 _ dc656864 ds656865 hx => by obtain ⟨P656862, F656863, rfl, rfl, hsb656855, hfr656856, hq656857, hqn656858, hwr656859, hdc656860, hds656861⟩ := hx; exact GT_outA rfl (show 0 + dc656864 ≤ ((16 * (p656810.toInt - p656811.toInt)).toNat + 9) by omega) (show 0 + ds656865 ≤ ((160 * (p656810.toInt - p656811.toInt)).toNat + 71) by omega) ⟨P656862, F656863, rfl, rfl, (rSub_tr (rSub_rf (P := P656805)) hsb656855), (rFr_v (show rFr [] P656805 F656806 F656863 from rFr_call (rSub_rf (P := P656805)) (rFr_rf (W := []) (P := P656805) (F := F656806)) hfr656856 (fun b hb hn => ⟨nm_n, nm_n⟩)) (fun b hn => nm_n)), hq656857, (fun z => hqn656858 ((rSub_rf (P := P656805)) _ z)), hwr656859, (by omega), (by omega), ⟨p656823, p656824, p656825, p656826, p656827, p656828, p656829, ((hfr656856 q656808 hmq656808 nm_n).trans heq656808), bp656823, bp656824, bp656827, bp656828, bp656829, x656838, x656836, x656837⟩⟩)
    obtain ⟨P656879, F656880, o656867, o656868, o656869, o656870, q656871, rfl, rfl, hsb656881, hfr656882, he656883, he656884, hdc, hds, bo656867, bo656868, bo656869, x656872, x656873, x656874, x656875, x656876, x656877, x656878⟩ := hp656852
    have hm656885 : q656807 ∈ P656879 := hsb656881 q656807 hmq656807
    have hm656886 : q656808 ∈ P656879 := hsb656881 q656808 hmq656808
    have hm656887 : q656809 ∈ P656879 := hsb656881 q656809 hmq656809
    have hsb656888 : rSub P656805 P656879 := rSub_tr (rSub_rf (P := P656805)) hsb656881
    have he656889 : F656880 q656808 = .inr (20, [.int p656823, .int p656824, .int p656825, .int p656826, .int p656827, .int p656828, .int p656829]) := (hfr656882 q656808 hmq656808 (nm_c (rn_oo heq656808 heq656807 (by decide)) nm_n)).trans heq656808
    have hfr656890 : rFr [q656807] P656805 F656806 F656880 := rFr_call (rSub_rf (P := P656805)) (rFr_rf (W := []) (P := P656805) (F := F656806)) hfr656882 (fun b hb hn => ⟨nm_n, (nm_c (fun e => hn (e ▸ List.mem_cons_self)) nm_n)⟩)
    have bo656870 := gB_any o656870
    rw [show Int32.toInt 2 = 2 from by decide] at x656878
    change G _ _ _ _ _ _ _ (.int p656814 :: _) _ _ _
    refine G_widen (cs' := (16 * (o656867.toInt - p656811.toInt)).toNat) (sl' := (160 * (o656867.toInt - p656811.toInt)).toNat) (by omega) (by omega) ?_
    have bv656891 : gB p656814 0 99 := vP_g2 x656877
    have x656892 : p656811.toInt ≤ o656867.toInt := by omega
    have x656893 : p656811.toInt + 0 ≤ p656811.toInt := by omega
    have x656894 : p656811.toInt + 0 ≤ o656867.toInt := by omega
    have x656895 : prQ o656868 (p656811.toInt + 1) o656867 := prP_q x656873 x656893 (by omega)
    refine G_widen (cs' := (16 * (o656867.toInt - p656811.toInt) + 0 : Int).toNat) (sl' := (160 * (o656867.toInt - p656811.toInt) + 0 : Int).toNat) (by omega) (by omega) ?_
    refine Gp_put 1 hm656886 he656889 dr_cX14_row_32 (gk_X15 D I) (Nat.le_of_ble_eq_true rfl) wr_9_179 rfl rfl rfl (Nat.le_of_ble_eq_true rfl) (fun F656896 e656897 n656898 => ?_)
    have he656899 : F656896 q656807 = .inr (19, [.ref q656809, .int p656810, .int o656867, .int o656868, .int o656869, .int o656870, .int p656812, .ref q656871, .int p656817, .int p656818, .int p656819, .ref qo656820, .ref qo656821, .int p656822]) := (n656898 q656807 (rn_oo he656883 he656889 (by decide))).trans he656883
    have he656900 : F656896 q656809 = .inl (I .byte, 8192, .inl f656830) := (n656898 q656809 (rn_ao he656884 he656889)).trans he656884
    have he656901 : F656896 q656808 = .inr (20, [.int p656823, .int p656814, .int p656825, .int p656826, .int p656827, .int p656828, .int p656829]) := e656897
    have hfr656902 : rFr [q656808, q656807] P656805 F656806 F656896 := rFr_put hfr656890 n656898
    have tp656903 : tP I P656879 F656896 o656868 q656871 qo656821 qo656820 := tP_put x656875 he656889 (by decide) n656898
    clear bo656846 hsb656881 hfr656882 he656883 he656884 he656889 hfr656890; try clear r656844; try clear w656845; try clear dc656841; try clear ds656842; try clear hp656843; try clear r656853; try clear w656854; try clear dc656850; try clear ds656851; try clear hp656852
    refine G_aload_n 0 dr_cX14_row_35 rfl ?_
    refine G_ldcK (a := D.2 1000 40) dr_cX14_row_36 (fun _ _ _ h => gx_vk 40 rfl rfl h) ?_
    have hl40_656903 : (sb_40.length : Int) = 1 := rfl
    refine Gw_callV (As := [.ref (D.2 1000 40)]) (gV_ok D I) (cp_655614_Reader_want l hl0 D I P656879 F656896 q656807 q656809 (D.2 1000 40) (D.2 1001 40) sb_40 p656810 o656867 o656868 o656869 o656870 p656812 q656871 p656817 p656818 p656819 qo656820 qo656821 p656822 f656830 hm656885 hm656887 he656899 he656900 (gx_sc 40 rfl rfl) (by omega) (by decide +kernel) bp656810 bo656867 bo656868 bo656869 bp656812 bp656817 bp656818 bp656819 bp656822 bf656830 (by omega) (hsb656888 _ x656832) (hsb656888 _ x656833) tp656903) dr_cX14_row_38 ⟨wr_9_133, wr_1_32, wr_9_136, by decide, rfl, (Nat.le_of_ble_eq_true rfl), (Nat.le_of_ble_eq_true rfl)⟩ wr_9_135 wr_p_83 hm656885 he656899 rfl (show (16 * (o656867.toInt - p656811.toInt) + 0 : Int).toNat + ((16 * (p656810.toInt - o656867.toInt)).toNat + 1) ≤ ((16 * (p656810.toInt - p656811.toInt)).toNat + 9) by first | omega | decide) (show (160 * (o656867.toInt - p656811.toInt) + 0 : Int).toNat + ((160 * (p656810.toInt - o656867.toInt)).toNat + 7) ≤ ((160 * (p656810.toInt - p656811.toInt)).toNat + 71) by first | omega | decide) (Nat.le_of_ble_eq_true rfl) (fun r656908 w656909 dc656905 ds656906 hp656907 => ?_) (fun _ qx656921 _ dc656919 ds656920 hx => by obtain ⟨P656917, F656918, rfl, rfl, hsb656910, hfr656911, hq656912, hqn656913, hwr656914, hdc656915, hds656916⟩ := hx; exact GT_outA rfl (show (16 * (o656867.toInt - p656811.toInt) + 0 : Int).toNat + dc656919 ≤ ((16 * (p656810.toInt - p656811.toInt)).toNat + 9) by omega) (show (160 * (o656867.toInt - p656811.toInt) + 0 : Int).toNat + ds656920 ≤ ((160 * (p656810.toInt - p656811.toInt)).toNat + 71) by omega) ⟨P656917, F656918, rfl, rfl, (rSub_tr hsb656888 hsb656910), (show rFr [q656808, q656807] P656805 F656806 F656918 from rFr_call hsb656888 hfr656902 hfr656911 (fun b hb hn => ⟨(nm_c (fun e => hn (e ▸ List.mem_cons_self)) (nm_c (fun e => hn (e ▸ (List.mem_cons_of_mem _ List.mem_cons_self))) nm_n)), nm_n⟩)), hq656912, (fun z => hqn656913 (hsb656888 _ z)), hwr656914, (by omega), (by omega), ⟨p656823, p656814, p656825, p656826, p656827, p656828, p656829, ((hfr656911 q656808 hm656886 nm_n).trans he656901), bp656823, (gB_w bv656891 (by decide) (by decide)), bp656827, bp656828, bp656829, x656838, x656836, x656837⟩⟩)
    obtain ⟨P656933, F656934, o656922, o656923, o656924, o656925, q656926, rfl, rfl, hsb656935, hfr656936, he656937, he656938, hdc, hds, bo656922, bo656923, bo656924, x656927, x656928, x656929, x656930, x656931, x656932⟩ := hp656907
    have hm656939 : q656807 ∈ P656933 := hsb656935 q656807 hm656885
    have hm656940 : q656808 ∈ P656933 := hsb656935 q656808 hm656886
    have hm656941 : q656809 ∈ P656933 := hsb656935 q656809 hm656887
    have hsb656942 : rSub P656805 P656933 := rSub_tr hsb656888 hsb656935
    have he656943 : F656934 q656808 = .inr (20, [.int p656823, .int p656814, .int p656825, .int p656826, .int p656827, .int p656828, .int p656829]) := (hfr656936 q656808 hm656886 (nm_c (rn_oo he656901 he656899 (by decide)) nm_n)).trans he656901
    have hfr656944 : rFr [q656808, q656807] P656805 F656806 F656934 := rFr_call hsb656888 hfr656902 hfr656936 (fun b hb hn => ⟨(nm_c (fun e => hn (e ▸ List.mem_cons_self)) (nm_c (fun e => hn (e ▸ (List.mem_cons_of_mem _ List.mem_cons_self))) nm_n)), (nm_c (fun e => hn (e ▸ (List.mem_cons_of_mem _ List.mem_cons_self))) nm_n)⟩)
    have bo656925 := gB_any o656925
    change G _ _ _ _ _ _ _ _ _ _ _
    refine G_widen (cs' := (16 * (o656867.toInt - p656811.toInt) + 0 : Int).toNat + ((16 * (o656922.toInt - o656867.toInt)).toNat)) (sl' := (160 * (o656867.toInt - p656811.toInt) + 0 : Int).toNat + ((160 * (o656922.toInt - o656867.toInt)).toNat)) (by omega) (by omega) ?_
    have x656945 : p656811.toInt ≤ o656922.toInt := by omega
    have x656946 : p656811.toInt + 1 ≤ o656867.toInt := by have q := (prQ_le x656895 x656932); omega
    have x656947 : p656811.toInt + 1 ≤ o656922.toInt := by omega
    have x656948 : prQ o656923 (p656811.toInt + 2) o656922 := prP_q x656928 x656946 (by omega)
    refine G_widen (cs' := (16 * (o656922.toInt - p656811.toInt) + 0 : Int).toNat) (sl' := (160 * (o656922.toInt - p656811.toInt) + 0 : Int).toNat) (by omega) (by omega) ?_
    clear bo656869 hm656885 hm656886 hm656887 hsb656888 he656899 he656900 he656901 hfr656902 hsb656935 hfr656936; try clear r656908; try clear w656909; try clear dc656905; try clear ds656906; try clear hp656907
    refine G_aload_n 0 dr_cX14_row_41 rfl ?_
    refine G_ldcK (a := D.2 1000 41) dr_cX14_row_42 (fun _ _ _ h => gx_vk 41 rfl rfl h) ?_
    have hl41_656948 : (sb_41.length : Int) = 2 := rfl
    refine Gw_callV (As := [.ref (D.2 1000 41)]) (gV_ok D I) (cp_655533_Reader_is l hl0 D I P656933 F656934 q656807 q656809 (D.2 1000 41) (D.2 1001 41) sb_41 p656810 o656922 o656923 o656924 o656925 o656868 q656926 p656817 p656818 p656819 qo656820 qo656821 p656822 f656830 hm656939 hm656941 he656937 he656938 (gx_sc 41 rfl rfl) (by omega) (by decide +kernel) bp656810 bo656922 bo656923 bo656924 bo656868 bp656817 bp656818 bp656819 bp656822 bf656830 x656930) dr_cX14_row_44 ⟨wr_9_137, wr_1_32, wr_9_140, by decide, rfl, (Nat.le_of_ble_eq_true rfl), (Nat.le_of_ble_eq_true rfl)⟩ wr_9_139 wr_p_84 hm656939 he656937 rfl (show (16 * (o656922.toInt - p656811.toInt) + 0 : Int).toNat + 0 ≤ ((16 * (p656810.toInt - p656811.toInt)).toNat + 9) by first | omega | decide) (show (160 * (o656922.toInt - p656811.toInt) + 0 : Int).toNat + 0 ≤ ((160 * (p656810.toInt - p656811.toInt)).toNat + 71) by first | omega | decide) (Nat.le_of_ble_eq_true rfl) (fun r656953 w656954 dc656950 ds656951 hp656952 => ?_) (fun _ _ _ _ _ z => z.elim)
    obtain ⟨o656955, rfl, rfl, hdc, hds, bo656955, x656956⟩ := hp656952
    change G _ _ _ _ _ _ _ (.int o656955 :: _) _ _ _
    refine G_widen (cs' := (16 * (o656922.toInt - p656811.toInt) + 0 : Int).toNat + 0) (sl' := (160 * (o656922.toInt - p656811.toInt) + 0 : Int).toNat + 0) (by omega) (by omega) ?_
    refine G_if_eq 61 dr_cX14_row_47 (by decide +kernel) (fun hc656957 => ?_) (fun hc656957 => ?_)
    · have r656958 : o656955.toInt = 0 := gj_eq hc656957 (show Int32.toInt 0 = 0 by decide)
      have bo656955' : gB o656955 0 0 := ⟨by omega, by omega⟩
      refine G_aload_n 0 dr_cX14_row_61 rfl ?_
      refine G_aload_n 1 dr_cX14_row_62 rfl ?_
      refine G_iconst 0 dr_cX14_row_63 (by decide +kernel) ?_
      refine Gw_callV (As := [.ref q656808, .int 0]) (gV_ok D I) (cp_655871_Reader_operand l hl0 D I P656933 F656934 q656807 q656808 q656809 0 p656810 o656922 o656923 o656924 o656925 o656868 q656926 p656817 p656818 p656819 qo656820 qo656821 p656822 p656823 p656814 p656825 p656826 p656827 p656828 p656829 f656830 hm656939 hm656940 hm656941 he656937 he656943 he656938 (gB_w (gBl (show Int32.toInt 0 = 0 by decide)) (by decide) (by decide)) bp656810 bo656922 bo656923 bo656924 bo656868 bp656817 bp656818 bp656819 bp656822 bp656823 (gB_w bv656891 (by decide) (by decide)) bp656827 bp656828 bp656829 bf656830 (by omega) (hsb656942 _ x656832) (hsb656942 _ x656833) x656930 x656931 x656836 x656837 x656838) dr_cX14_row_64 ⟨wr_10_85, wr_1_32, wr_10_88, by decide, rfl, (Nat.le_of_ble_eq_true rfl), (Nat.le_of_ble_eq_true rfl)⟩ wr_10_87 wr_p_89 hm656939 he656937 rfl (show (16 * (o656922.toInt - p656811.toInt) + 0 : Int).toNat + 0 + ((16 * (p656810.toInt - o656922.toInt)).toNat + 1) ≤ ((16 * (p656810.toInt - p656811.toInt)).toNat + 9) by first | omega | decide) (show (160 * (o656922.toInt - p656811.toInt) + 0 : Int).toNat + 0 + ((160 * (p656810.toInt - o656922.toInt)).toNat + 7) ≤ ((160 * (p656810.toInt - p656811.toInt)).toNat + 71) by first | omega | decide) (Nat.le_of_ble_eq_true rfl) (fun r656962 w656963 dc656959 ds656960 hp656961 => ?_) (fun _ qx656975 _ dc656973 ds656974 hx => by obtain ⟨P656971, F656972, rfl, rfl, hsb656964, hfr656965, hq656966, hqn656967, hwr656968, hdc656969, hds656970, x656976⟩ := hx; exact GT_outA rfl (show (16 * (o656922.toInt - p656811.toInt) + 0 : Int).toNat + 0 + dc656973 ≤ ((16 * (p656810.toInt - p656811.toInt)).toNat + 9) by omega) (show (160 * (o656922.toInt - p656811.toInt) + 0 : Int).toNat + 0 + ds656974 ≤ ((160 * (p656810.toInt - p656811.toInt)).toNat + 71) by omega) ⟨P656971, F656972, rfl, rfl, (rSub_tr hsb656942 hsb656964), (show rFr [q656808, q656807] P656805 F656806 F656972 from rFr_call hsb656942 hfr656944 hfr656965 (fun b hb hn => ⟨(nm_c (fun e => hn (e ▸ List.mem_cons_self)) (nm_c (fun e => hn (e ▸ (List.mem_cons_of_mem _ List.mem_cons_self))) nm_n)), nm_n⟩)), hq656966, (fun z => hqn656967 (hsb656942 _ z)), hwr656968, (by omega), (by omega), ⟨p656823, p656814, p656825, p656826, p656827, p656828, p656829, ((hfr656965 q656808 hm656940 nm_n).trans he656943), bp656823, (gB_w bv656891 (by decide) (by decide)), bp656827, bp656828, bp656829, x656838, x656836, x656837⟩⟩)
      obtain ⟨P656994, F656995, o656977, o656978, o656979, o656980, q656981, o656982, o656983, o656984, o656985, rfl, rfl, hsb656996, hfr656997, he656998, he656999, he657000, hdc, hds, bo656977, bo656978, bo656979, bo656984, bo656985, x656986, x656987, x656988, x656989, x656990, x656991, x656992, x656993⟩ := hp656961
      have hm657001 : q656807 ∈ P656994 := hsb656996 q656807 hm656939
      have hm657002 : q656808 ∈ P656994 := hsb656996 q656808 hm656940
      have hm657003 : q656809 ∈ P656994 := hsb656996 q656809 hm656941
      have hsb657004 : rSub P656805 P656994 := rSub_tr hsb656942 hsb656996
      have hfr657005 : rFr [q656808, q656807] P656805 F656806 F656995 := rFr_call hsb656942 hfr656944 hfr656997 (fun b hb hn => ⟨(nm_c (fun e => hn (e ▸ List.mem_cons_self)) (nm_c (fun e => hn (e ▸ (List.mem_cons_of_mem _ List.mem_cons_self))) nm_n)), (nm_c (fun e => hn (e ▸ List.mem_cons_self)) (nm_c (fun e => hn (e ▸ (List.mem_cons_of_mem _ List.mem_cons_self))) nm_n))⟩)
      have bo656980 := gB_any o656980
      have bo656982 := gB_any o656982
      have bo656983 := gB_any o656983
      change G _ _ _ _ _ _ _ _ _ _ _
      refine G_widen (cs' := (16 * (o656922.toInt - p656811.toInt) + 0 : Int).toNat + 0 + ((16 * (o656977.toInt - o656922.toInt)).toNat)) (sl' := (160 * (o656922.toInt - p656811.toInt) + 0 : Int).toNat + 0 + ((160 * (o656977.toInt - o656922.toInt)).toNat)) (by omega) (by omega) ?_
      have x657006 : p656811.toInt ≤ o656977.toInt := by omega
      have x657007 : p656811.toInt + 2 ≤ o656922.toInt := by have q := (prQ_le x656948 x656993); omega
      have x657008 : p656811.toInt + 2 ≤ o656977.toInt := by omega
      have x657009 : prQ o656978 (p656811.toInt + 3) o656977 := prP_q x656987 x657007 (by omega)
      refine G_widen (cs' := (16 * (o656977.toInt - p656811.toInt) + 0 : Int).toNat) (sl' := (160 * (o656977.toInt - p656811.toInt) + 0 : Int).toNat) (by omega) (by omega) ?_
      clear he656937 he656938 bo656924 hm656939 hm656940 hm656941 hsb656942 he656943 hfr656944 bo656955 hsb656996 hfr656997; try clear r656953; try clear w656954; try clear dc656950; try clear ds656951; try clear hp656952; try clear r656962; try clear w656963; try clear dc656959; try clear ds656960; try clear hp656961
      refine G_aload_n 1 dr_cX14_row_67 rfl ?_
      refine G_aload_n 0 dr_cX14_row_68 rfl ?_
      refine Gp_get 3 hm657001 he656999 dr_cX14_row_69 (gk_X14 D I) (Nat.le_of_ble_eq_true rfl) wr_9_35 rfl ?_
      refine G_iconst 5 dr_cX14_row_72 (by decide +kernel) ?_
      refine G_icmp_ne 86 dr_cX14_row_73 (by decide +kernel) (fun hc657010 => ?_) (fun hc657010 => ?_)
      · have r657011 : o656978.toInt ≠ 5 := gj_neq hc657010 (show Int32.toInt 5 = 5 by decide)
        refine G_widen (cs' := (16 * (o656977.toInt - p656811.toInt) + 8 : Int).toNat) (sl' := (160 * (o656977.toInt - p656811.toInt) + 64 : Int).toNat) (by omega) (by omega) ?_
        refine G_iconst 0 dr_cX14_row_86 (by decide +kernel) ?_
        refine Gp_put 0 hm657002 he656998 dr_cX14_row_87 (gk_X15 D I) (Nat.le_of_ble_eq_true rfl) wr_9_175 rfl rfl rfl (Nat.le_of_ble_eq_true rfl) (fun F657012 e657013 n657014 => ?_)
        have he657015 : F657012 q656807 = .inr (19, [.ref q656809, .int p656810, .int o656977, .int o656978, .int o656979, .int o656980, .int o656923, .ref q656981, .int p656817, .int p656818, .int p656819, .ref qo656820, .ref qo656821, .int p656822]) := (n657014 q656807 (rn_oo he656999 he656998 (by decide))).trans he656999
        have he657016 : F657012 q656809 = .inl (I .byte, 8192, .inl f656830) := (n657014 q656809 (rn_ao he657000 he656998)).trans he657000
        have he657017 : F657012 q656808 = .inr (20, [.int 0, .int p656814, .int o656982, .int o656983, .int p656827, .int o656984, .int o656985]) := e657013
        have hfr657018 : rFr [q656808, q656807] P656805 F656806 F657012 := rFr_put' List.mem_cons_self hfr657005 n657014
        have tp657019 : tP I P656994 F657012 o656978 q656981 qo656821 qo656820 := tP_put x656989 he656998 (by decide) n657014
        clear he656998 he656999 he657000 hfr657005
        refine G_aload_n 1 dr_cX14_row_90 rfl ?_
        refine Gp_get 0 hm657002 he657017 dr_cX14_row_91 (gk_X15 D I) (Nat.le_of_ble_eq_true rfl) wr_9_175 rfl ?_
        refine G_if_ne 98 dr_cX14_row_94 (by decide +kernel) (fun hc => absurd hc (by decide)) (fun _ => ?_)
        exact G_vretA dr_cX14_row_97 rfl (show (16 * (o656977.toInt - p656811.toInt) + 8 : Int).toNat ≤ ((16 * (p656810.toInt - p656811.toInt)).toNat + 9) by omega) (show (160 * (o656977.toInt - p656811.toInt) + 64 : Int).toNat ≤ ((160 * (p656810.toInt - p656811.toInt)).toNat + 71) by omega) ⟨P656994, F657012, o656977, o656978, o656979, o656980, o656923, q656981, 0, p656814, o656982, o656983, o656984, o656985, rfl, rfl, hsb657004, hfr657018, he657017, he657015, he657016, (by omega), (by omega), bo656977, bo656978, bo656979, bo656923, (gB_w (gBl (show Int32.toInt 0 = 0 by decide)) (by decide) (by decide)), (gB_w bv656891 (by decide) (by decide)), bo656984, bo656985, (by have qa0 : Int32.toInt 0 = 0 := (by decide); omega), (prP_le x656987 (by omega)), (by have qa0 : Int32.toInt 0 = 0 := (by decide); omega), tp657019, x656990, x656991, x656992, (Or.inl (by decide)), (Or.inl (by decide)), (show nzK p656812 by unfold nzK; omega), ⟨by omega, Or.inr (by omega)⟩⟩
      · have r657020 : o656978.toInt = 5 := gj_eq hc657010 (show Int32.toInt 5 = 5 by decide)
        have bo656978' : gB o656978 5 5 := ⟨by omega, by omega⟩
        refine G_aload_n 0 dr_cX14_row_76 rfl ?_
        refine Gp_get 7 hm657001 he656999 dr_cX14_row_77 (gk_X14 D I) (Nat.le_of_ble_eq_true rfl) wr_9_39 rfl ?_
        obtain ⟨q657021, n657022, f657023, p657024, p657025, hm657026, he657027, hm657028, he657029, bf657023, x657030, bp657025, hg657031, hg657032⟩ := x656989.2 (by omega)
        have bp657024 := gB_any p657024
        refine Gw_callSN (As := [.ref q656981]) (gV_ok D I) (cp_656102_SpillForgeModel_operation l hl0 D I P656994 F656995 q656981 q657021 p657024 p657025 f657023 n657022 hm657026 hm657028 he657027 he657029 bp657025 bf657023 (by have qa0 : Int32.toInt 0 = 0 := (by decide); omega) (by have qa0 : Int32.toInt 0 = 0 := (by decide); omega)) dr_cX14_row_80 ⟨(fun _ _ _ h => gn_w 81 rfl h), wr_1_14, wr_10_93, by decide, rfl, (Nat.le_of_ble_eq_true rfl), (Nat.le_of_ble_eq_true rfl)⟩ wr_10_92 (show (16 * (o656977.toInt - p656811.toInt) + 0 : Int).toNat + 8 ≤ ((16 * (p656810.toInt - p656811.toInt)).toNat + 9) by first | omega | decide) (show (160 * (o656977.toInt - p656811.toInt) + 0 : Int).toNat + 64 ≤ ((160 * (p656810.toInt - p656811.toInt)).toNat + 71) by first | omega | decide) (Nat.le_of_ble_eq_true rfl) (fun r657036 w657037 dc657033 ds657034 hp657035 => ?_)
        obtain ⟨P657041, F657042, o657038, rfl, rfl, hsb657043, hfr657044, he657045, he657046, hdc, hds, bo657038, x657039, x657040⟩ := hp657035
        have hm657047 : q656807 ∈ P657041 := hsb657043 q656807 hm657001
        have hm657048 : q656808 ∈ P657041 := hsb657043 q656808 hm657002
        have hm657049 : q656809 ∈ P657041 := hsb657043 q656809 hm657003
        have hm657050 : q656981 ∈ P657041 := hsb657043 q656981 hm657026
        have hm657051 : q657021 ∈ P657041 := hsb657043 q657021 hm657028
        have hsb657052 : rSub P656805 P657041 := rSub_tr hsb657004 hsb657043
        have he657053 : F657042 q656808 = .inr (20, [.int p656823, .int p656814, .int o656982, .int o656983, .int p656827, .int o656984, .int o656985]) := (hfr657044 q656808 hm657002 nm_n).trans he656998
        have he657054 : F657042 q656807 = .inr (19, [.ref q656809, .int p656810, .int o656977, .int o656978, .int o656979, .int o656980, .int o656923, .ref q656981, .int p656817, .int p656818, .int p656819, .ref qo656820, .ref qo656821, .int p656822]) := (hfr657044 q656807 hm657001 nm_n).trans he656999
        have he657055 : F657042 q656809 = .inl (I .byte, 8192, .inl f656830) := (hfr657044 q656809 hm657003 nm_n).trans he657000
        have hfr657056 : rFr [q656808, q656807] P656805 F656806 F657042 := rFr_call hsb657004 hfr657005 hfr657044 (fun b hb hn => ⟨(nm_c (fun e => hn (e ▸ List.mem_cons_self)) (nm_c (fun e => hn (e ▸ (List.mem_cons_of_mem _ List.mem_cons_self))) nm_n)), nm_n⟩)
        have tp657057 : tP I P657041 F657042 o656978 q656981 qo656821 qo656820 := tP_new x656989 hsb657043 (fun b hb => hfr657044 b hb (fun z => by cases z)) (Or.inl rfl) (Or.inl rfl)
        change G _ _ _ _ _ _ _ (.int o657038 :: _) _ _ _
        refine G_widen (cs' := (16 * (o656977.toInt - p656811.toInt) + 0 : Int).toNat + 8) (sl' := (160 * (o656977.toInt - p656811.toInt) + 0 : Int).toNat + 64) (by omega) (by omega) ?_
        refine G_widen (cs' := (16 * (o656977.toInt - p656811.toInt) + 8 : Int).toNat) (sl' := (160 * (o656977.toInt - p656811.toInt) + 64 : Int).toNat) (by omega) (by omega) ?_
        refine G_goto 87 dr_cX14_row_83 (by decide +kernel) ?_
        refine Gp_put 0 hm657048 he657053 dr_cX14_row_87 (gk_X15 D I) (Nat.le_of_ble_eq_true rfl) wr_9_175 rfl rfl rfl (Nat.le_of_ble_eq_true rfl) (fun F657058 e657059 n657060 => ?_)
        have he657061 : F657058 q656807 = .inr (19, [.ref q656809, .int p656810, .int o656977, .int o656978, .int o656979, .int o656980, .int o656923, .ref q656981, .int p656817, .int p656818, .int p656819, .ref qo656820, .ref qo656821, .int p656822]) := (n657060 q656807 (rn_oo he657054 he657053 (by decide))).trans he657054
        have he657062 : F657058 q656809 = .inl (I .byte, 8192, .inl f656830) := (n657060 q656809 (rn_ao he657055 he657053)).trans he657055
        have he657063 : F657058 q656981 = .inr (0, [.ref q657021, .int 0, .int p657024, .int p657025]) := (n657060 q656981 (rn_oo he657045 he657053 (by decide))).trans he657045
        have he657064 : F657058 q657021 = .inl (I .byte, n657022, .inl f657023) := (n657060 q657021 (rn_ao he657046 he657053)).trans he657046
        have he657065 : F657058 q656808 = .inr (20, [.int o657038, .int p656814, .int o656982, .int o656983, .int p656827, .int o656984, .int o656985]) := e657059
        have hfr657066 : rFr [q656808, q656807] P656805 F656806 F657058 := rFr_put' List.mem_cons_self hfr657056 n657060
        have tp657067 : tP I P657041 F657058 o656978 q656981 qo656821 qo656820 := tP_put tp657057 he657053 (by decide) n657060
        clear he656998 he656999 he657000 bo656978 hm657001 hm657002 hm657003 hsb657004 hfr657005 hm657026 he657027 hm657028 he657029 hg657031 hg657032 hsb657043 hfr657044 he657045 he657046 he657053 he657054 he657055 hfr657056; try clear r657036; try clear w657037; try clear dc657033; try clear ds657034; try clear hp657035
        refine G_aload_n 1 dr_cX14_row_90 rfl ?_
        refine Gp_get 0 hm657048 he657065 dr_cX14_row_91 (gk_X15 D I) (Nat.le_of_ble_eq_true rfl) wr_9_175 rfl ?_
        refine G_if_ne 98 dr_cX14_row_94 (by decide +kernel) (fun hc657068 => ?_) (fun hc657068 => ?_)
        · have r657069 : o657038.toInt ≠ 0 := gj_neq hc657068 (show Int32.toInt 0 = 0 by decide)
          have bo657038' : gB o657038 1 14 := ⟨by omega, by omega⟩
          refine G_aload_n 0 dr_cX14_row_98 rfl ?_
          refine Gw_callV (As := []) (gV_ok D I) (cp_653656_Reader_next l hl0 D I P657041 F657058 q656807 q656809 p656810 o656977 o656978 o656979 o656980 o656923 q656981 p656817 p656818 p656819 qo656820 qo656821 p656822 f656830 hm657047 hm657049 he657061 he657062 bp656810 bo656977 (gB_w bo656978' (by decide) (by decide)) bo656979 bo656923 bp656817 bp656818 bp656819 bp656822 bf656830 (by have qa0 : Int32.toInt 0 = 0 := (by decide); omega) (hsb657052 _ x656832) (hsb657052 _ x656833)) dr_cX14_row_99 ⟨wr_7_211, wr_1_32, wr_7_214, by decide, rfl, (Nat.le_of_ble_eq_true rfl), (Nat.le_of_ble_eq_true rfl)⟩ wr_7_213 wr_p_75 hm657047 he657061 rfl (show (16 * (o656977.toInt - p656811.toInt) + 8 : Int).toNat + ((16 * (p656810.toInt - o656977.toInt)).toNat) ≤ ((16 * (p656810.toInt - p656811.toInt)).toNat + 9) by first | omega | decide) (show (160 * (o656977.toInt - p656811.toInt) + 64 : Int).toNat + ((160 * (p656810.toInt - o656977.toInt)).toNat) ≤ ((160 * (p656810.toInt - p656811.toInt)).toNat + 71) by first | omega | decide) (Nat.le_of_ble_eq_true rfl) (fun r657073 w657074 dc657070 ds657071 hp657072 => ?_) (fun _ _ _ _ _ z => z.elim)
          obtain ⟨P657085, F657086, o657075, o657076, o657077, o657078, q657079, rfl, rfl, hsb657087, hfr657088, he657089, he657090, hdc, hds, bo657075, bo657076, bo657077, x657080, x657081, x657082, x657083, x657084⟩ := hp657072
          have hm657091 : q656807 ∈ P657085 := hsb657087 q656807 hm657047
          have hm657092 : q656808 ∈ P657085 := hsb657087 q656808 hm657048
          have hm657093 : q656809 ∈ P657085 := hsb657087 q656809 hm657049
          have hm657094 : q656981 ∈ P657085 := hsb657087 q656981 hm657050
          have hm657095 : q657021 ∈ P657085 := hsb657087 q657021 hm657051
          have hsb657096 : rSub P656805 P657085 := rSub_tr hsb657052 hsb657087
          have he657097 : F657086 q656808 = .inr (20, [.int o657038, .int p656814, .int o656982, .int o656983, .int p656827, .int o656984, .int o656985]) := (hfr657088 q656808 hm657048 (nm_c (rn_oo he657065 he657061 (by decide)) nm_n)).trans he657065
          have he657098 : F657086 q656981 = .inr (0, [.ref q657021, .int 0, .int p657024, .int p657025]) := (hfr657088 q656981 hm657050 (nm_c (rn_oo he657063 he657061 (by decide)) nm_n)).trans he657063
          have he657099 : F657086 q657021 = .inl (I .byte, n657022, .inl f657023) := (hfr657088 q657021 hm657051 (nm_c (rn_ao he657064 he657061) nm_n)).trans he657064
          have hfr657100 : rFr [q656808, q656807] P656805 F656806 F657086 := rFr_call hsb657052 hfr657066 hfr657088 (fun b hb hn => ⟨(nm_c (fun e => hn (e ▸ List.mem_cons_self)) (nm_c (fun e => hn (e ▸ (List.mem_cons_of_mem _ List.mem_cons_self))) nm_n)), (nm_c (fun e => hn (e ▸ (List.mem_cons_of_mem _ List.mem_cons_self))) nm_n)⟩)
          have bo657078 := gB_any o657078
          change G _ _ _ _ _ _ _ _ _ _ _
          refine G_widen (cs' := (16 * (o656977.toInt - p656811.toInt) + 8 : Int).toNat + ((16 * (o657075.toInt - o656977.toInt)).toNat)) (sl' := (160 * (o656977.toInt - p656811.toInt) + 64 : Int).toNat + ((160 * (o657075.toInt - o656977.toInt)).toNat)) (by omega) (by omega) ?_
          have x657101 : p656811.toInt ≤ o657075.toInt := by omega
          have x657102 : p656811.toInt + 2 ≤ o656977.toInt := by have q := (prQ_le x657009 (show nzK o656978 by unfold nzK; omega)); omega
          have x657103 : p656811.toInt + 2 ≤ o657075.toInt := by omega
          have x657104 : prQ o657076 (p656811.toInt + 3) o657075 := prP_q x657081 x657102 (by omega)
          refine G_widen (cs' := (16 * (o657075.toInt - p656811.toInt) + 8 : Int).toNat) (sl' := (160 * (o657075.toInt - p656811.toInt) + 64 : Int).toNat) (by omega) (by omega) ?_
          clear bo656867 bo656979 bf657023 bp657025 bp657024 bo657038 hm657047 hm657048 hm657049 hm657050 hm657051 hsb657052 he657061 he657062 he657063 he657064 he657065 hfr657066 hsb657087 hfr657088 hm657094 hm657095 he657098 he657099; try clear x656872; try clear x656873; try clear x656874; try clear x656892; try clear x656894; try clear x656895; try clear x656927; try clear x656928; try clear x656946; try clear x657030; try clear r657073; try clear w657074; try clear dc657070; try clear ds657071; try clear hp657072
          refine G_aload_n 0 dr_cX14_row_102 rfl ?_
          refine G_aload_n 1 dr_cX14_row_103 rfl ?_
          refine G_iconst 1 dr_cX14_row_104 (by decide +kernel) ?_
          refine Gw_callV (As := [.ref q656808, .int 1]) (gV_ok D I) (cp_655871_Reader_operand l hl0 D I P657085 F657086 q656807 q656808 q656809 1 p656810 o657075 o657076 o657077 o657078 o656978 q657079 p656817 p656818 p656819 qo656820 qo656821 p656822 o657038 p656814 o656982 o656983 p656827 o656984 o656985 f656830 hm657091 hm657092 hm657093 he657089 he657097 he657090 (gB_w (gBl (show Int32.toInt 1 = 1 by decide)) (by decide) (by decide)) bp656810 bo657075 bo657076 bo657077 (gB_w bo656978' (by decide) (by decide)) bp656817 bp656818 bp656819 bp656822 (gB_w bo657038' (by decide) (by decide)) (gB_w bv656891 (by decide) (by decide)) bp656827 bo656984 bo656985 bf656830 (by omega) (hsb657096 _ x656832) (hsb657096 _ x656833) x657083 x657084 x656991 x656992 (opP_of (gB_w bo657038' (by decide) (by decide)))) dr_cX14_row_105 ⟨wr_10_85, wr_1_32, wr_10_88, by decide, rfl, (Nat.le_of_ble_eq_true rfl), (Nat.le_of_ble_eq_true rfl)⟩ wr_10_87 wr_p_89 hm657091 he657089 rfl (show (16 * (o657075.toInt - p656811.toInt) + 8 : Int).toNat + ((16 * (p656810.toInt - o657075.toInt)).toNat + 1) ≤ ((16 * (p656810.toInt - p656811.toInt)).toNat + 9) by first | omega | decide) (show (160 * (o657075.toInt - p656811.toInt) + 64 : Int).toNat + ((160 * (p656810.toInt - o657075.toInt)).toNat + 7) ≤ ((160 * (p656810.toInt - p656811.toInt)).toNat + 71) by first | omega | decide) (Nat.le_of_ble_eq_true rfl) (fun r657108 w657109 dc657105 ds657106 hp657107 => ?_) (fun _ qx657121 _ dc657119 ds657120 hx => by obtain ⟨P657117, F657118, rfl, rfl, hsb657110, hfr657111, hq657112, hqn657113, hwr657114, hdc657115, hds657116, x657122⟩ := hx; exact GT_outA rfl (show (16 * (o657075.toInt - p656811.toInt) + 8 : Int).toNat + dc657119 ≤ ((16 * (p656810.toInt - p656811.toInt)).toNat + 9) by omega) (show (160 * (o657075.toInt - p656811.toInt) + 64 : Int).toNat + ds657120 ≤ ((160 * (p656810.toInt - p656811.toInt)).toNat + 71) by omega) ⟨P657117, F657118, rfl, rfl, (rSub_tr hsb657096 hsb657110), (show rFr [q656808, q656807] P656805 F656806 F657118 from rFr_call hsb657096 hfr657100 hfr657111 (fun b hb hn => ⟨(nm_c (fun e => hn (e ▸ List.mem_cons_self)) (nm_c (fun e => hn (e ▸ (List.mem_cons_of_mem _ List.mem_cons_self))) nm_n)), nm_n⟩)), hq657112, (fun z => hqn657113 (hsb657096 _ z)), hwr657114, (by omega), (by omega), ⟨o657038, p656814, o656982, o656983, p656827, o656984, o656985, ((hfr657111 q656808 hm657092 nm_n).trans he657097), (gB_w bo657038' (by decide) (by decide)), (gB_w bv656891 (by decide) (by decide)), bp656827, bo656984, bo656985, (opP_of (gB_w bo657038' (by decide) (by decide))), x656991, x656992⟩⟩)
          obtain ⟨P657140, F657141, o657123, o657124, o657125, o657126, q657127, o657128, o657129, o657130, o657131, rfl, rfl, hsb657142, hfr657143, he657144, he657145, he657146, hdc, hds, bo657123, bo657124, bo657125, bo657130, bo657131, x657132, x657133, x657134, x657135, x657136, x657137, x657138, x657139⟩ := hp657107
          have hm657147 : q656807 ∈ P657140 := hsb657142 q656807 hm657091
          have hm657148 : q656808 ∈ P657140 := hsb657142 q656808 hm657092
          have hm657149 : q656809 ∈ P657140 := hsb657142 q656809 hm657093
          have hsb657150 : rSub P656805 P657140 := rSub_tr hsb657096 hsb657142
          have hfr657151 : rFr [q656808, q656807] P656805 F656806 F657141 := rFr_call hsb657096 hfr657100 hfr657143 (fun b hb hn => ⟨(nm_c (fun e => hn (e ▸ List.mem_cons_self)) (nm_c (fun e => hn (e ▸ (List.mem_cons_of_mem _ List.mem_cons_self))) nm_n)), (nm_c (fun e => hn (e ▸ List.mem_cons_self)) (nm_c (fun e => hn (e ▸ (List.mem_cons_of_mem _ List.mem_cons_self))) nm_n))⟩)
          have bo657126 := gB_any o657126
          have bo657128 := gB_any o657128
          have bo657129 := gB_any o657129
          change G _ _ _ _ _ _ _ _ _ _ _
          refine G_widen (cs' := (16 * (o657075.toInt - p656811.toInt) + 8 : Int).toNat + ((16 * (o657123.toInt - o657075.toInt)).toNat)) (sl' := (160 * (o657075.toInt - p656811.toInt) + 64 : Int).toNat + ((160 * (o657123.toInt - o657075.toInt)).toNat)) (by omega) (by omega) ?_
          have x657152 : p656811.toInt + 2 ≤ o657075.toInt := by have q := (prQ_le x657104 x657139); omega
          have x657153 : p656811.toInt + 2 ≤ o657123.toInt := by omega
          have x657154 : prQ o657124 (p656811.toInt + 3) o657123 := prP_q x657133 x657152 (by omega)
          exact G_vretA dr_cX14_row_108 rfl (show (16 * (o657075.toInt - p656811.toInt) + 8 : Int).toNat + ((16 * (o657123.toInt - o657075.toInt)).toNat) ≤ ((16 * (p656810.toInt - p656811.toInt)).toNat + 9) by omega) (show (160 * (o657075.toInt - p656811.toInt) + 64 : Int).toNat + ((160 * (o657123.toInt - o657075.toInt)).toNat) ≤ ((160 * (p656810.toInt - p656811.toInt)).toNat + 71) by omega) ⟨P657140, F657141, o657123, o657124, o657125, o657126, o657076, q657127, o657038, p656814, o657128, o657129, o657130, o657131, rfl, rfl, hsb657150, hfr657151, he657144, he657145, he657146, (by omega), (by omega), bo657123, bo657124, bo657125, bo657076, (gB_w bo657038' (by decide) (by decide)), (gB_w bv656891 (by decide) (by decide)), bo657130, bo657131, (by omega), (prP_le x657133 (by omega)), (by omega), x657135, x657136, x657137, x657138, (opP_of (gB_w bo657038' (by decide) (by decide))), (Or.inl (by omega)), (show nzK p656812 by unfold nzK; omega), ⟨by omega, Or.inr (by omega)⟩⟩
        · have r657155 : o657038.toInt = 0 := gj_eq hc657068 (show Int32.toInt 0 = 0 by decide)
          have bo657038' : gB o657038 0 0 := ⟨by omega, by omega⟩
          exact G_vretA dr_cX14_row_97 rfl (show (16 * (o656977.toInt - p656811.toInt) + 8 : Int).toNat ≤ ((16 * (p656810.toInt - p656811.toInt)).toNat + 9) by omega) (show (160 * (o656977.toInt - p656811.toInt) + 64 : Int).toNat ≤ ((160 * (p656810.toInt - p656811.toInt)).toNat + 71) by omega) ⟨P657041, F657058, o656977, o656978, o656979, o656980, o656923, q656981, o657038, p656814, o656982, o656983, o656984, o656985, rfl, rfl, hsb657052, hfr657066, he657065, he657061, he657062, (by omega), (by omega), bo656977, (gB_w bo656978' (by decide) (by decide)), bo656979, bo656923, (gB_w bo657038' (by decide) (by decide)), (gB_w bv656891 (by decide) (by decide)), bo656984, bo656985, (by have qa0 : Int32.toInt 0 = 0 := (by decide); omega), (prP_le x656987 (by omega)), (by have qa0 : Int32.toInt 0 = 0 := (by decide); omega), tp657067, x656990, x656991, x656992, (opP_of (gB_w bo657038' (by decide) (by decide))), (Or.inl (by omega)), (show nzK p656812 by unfold nzK; omega), ⟨by omega, Or.inr (by omega)⟩⟩
    · have r657156 : o656955.toInt ≠ 0 := gj_neq hc656957 (show Int32.toInt 0 = 0 by decide)
      have bo656955' : gB o656955 1 1 := ⟨by omega, by omega⟩
      refine G_aload_n 0 dr_cX14_row_50 rfl ?_
      refine Gw_callV (As := []) (gV_ok D I) (cp_653656_Reader_next l hl0 D I P656933 F656934 q656807 q656809 p656810 o656922 o656923 o656924 o656925 o656868 q656926 p656817 p656818 p656819 qo656820 qo656821 p656822 f656830 hm656939 hm656941 he656937 he656938 bp656810 bo656922 bo656923 bo656924 bo656868 bp656817 bp656818 bp656819 bp656822 bf656830 (by omega) (hsb656942 _ x656832) (hsb656942 _ x656833)) dr_cX14_row_51 ⟨wr_7_211, wr_1_32, wr_7_214, by decide, rfl, (Nat.le_of_ble_eq_true rfl), (Nat.le_of_ble_eq_true rfl)⟩ wr_7_213 wr_p_75 hm656939 he656937 rfl (show (16 * (o656922.toInt - p656811.toInt) + 0 : Int).toNat + 0 + ((16 * (p656810.toInt - o656922.toInt)).toNat) ≤ ((16 * (p656810.toInt - p656811.toInt)).toNat + 9) by first | omega | decide) (show (160 * (o656922.toInt - p656811.toInt) + 0 : Int).toNat + 0 + ((160 * (p656810.toInt - o656922.toInt)).toNat) ≤ ((160 * (p656810.toInt - p656811.toInt)).toNat + 71) by first | omega | decide) (Nat.le_of_ble_eq_true rfl) (fun r657160 w657161 dc657157 ds657158 hp657159 => ?_) (fun _ _ _ _ _ z => z.elim)
      obtain ⟨P657172, F657173, o657162, o657163, o657164, o657165, q657166, rfl, rfl, hsb657174, hfr657175, he657176, he657177, hdc, hds, bo657162, bo657163, bo657164, x657167, x657168, x657169, x657170, x657171⟩ := hp657159
      have hm657178 : q656807 ∈ P657172 := hsb657174 q656807 hm656939
      have hm657179 : q656808 ∈ P657172 := hsb657174 q656808 hm656940
      have hm657180 : q656809 ∈ P657172 := hsb657174 q656809 hm656941
      have hsb657181 : rSub P656805 P657172 := rSub_tr hsb656942 hsb657174
      have he657182 : F657173 q656808 = .inr (20, [.int p656823, .int p656814, .int p656825, .int p656826, .int p656827, .int p656828, .int p656829]) := (hfr657175 q656808 hm656940 (nm_c (rn_oo he656943 he656937 (by decide)) nm_n)).trans he656943
      have hfr657183 : rFr [q656808, q656807] P656805 F656806 F657173 := rFr_call hsb656942 hfr656944 hfr657175 (fun b hb hn => ⟨(nm_c (fun e => hn (e ▸ List.mem_cons_self)) (nm_c (fun e => hn (e ▸ (List.mem_cons_of_mem _ List.mem_cons_self))) nm_n)), (nm_c (fun e => hn (e ▸ (List.mem_cons_of_mem _ List.mem_cons_self))) nm_n)⟩)
      have bo657165 := gB_any o657165
      change G _ _ _ _ _ _ _ _ _ _ _
      refine G_widen (cs' := (16 * (o656922.toInt - p656811.toInt) + 0 : Int).toNat + 0 + ((16 * (o657162.toInt - o656922.toInt)).toNat)) (sl' := (160 * (o656922.toInt - p656811.toInt) + 0 : Int).toNat + 0 + ((160 * (o657162.toInt - o656922.toInt)).toNat)) (by omega) (by omega) ?_
      have x657184 : p656811.toInt ≤ o657162.toInt := by omega
      have x657185 : p656811.toInt + 2 ≤ o656922.toInt := by have q := (prQ_le x656948 (isK_1 x656956 (by omega))); omega
      have x657186 : p656811.toInt + 2 ≤ o657162.toInt := by omega
      have x657187 : prQ o657163 (p656811.toInt + 3) o657162 := prP_q x657168 x657185 (by omega)
      refine G_widen (cs' := (16 * (o657162.toInt - p656811.toInt) + 0 : Int).toNat) (sl' := (160 * (o657162.toInt - p656811.toInt) + 0 : Int).toNat) (by omega) (by omega) ?_
      clear he656937 he656938 bo656924 hm656939 hm656940 hm656941 hsb656942 he656943 hfr656944 bo656955 hsb657174 hfr657175; try clear r656953; try clear w656954; try clear dc656950; try clear ds656951; try clear hp656952; try clear r657160; try clear w657161; try clear dc657157; try clear ds657158; try clear hp657159
      refine G_aload_n 1 dr_cX14_row_54 rfl ?_
      refine G_bipush 20 dr_cX14_row_55 (by decide +kernel) ?_
      refine Gp_put 0 hm657179 he657182 dr_cX14_row_57 (gk_X15 D I) (Nat.le_of_ble_eq_true rfl) wr_9_175 rfl rfl rfl (Nat.le_of_ble_eq_true rfl) (fun F657188 e657189 n657190 => ?_)
      have he657191 : F657188 q656807 = .inr (19, [.ref q656809, .int p656810, .int o657162, .int o657163, .int o657164, .int o657165, .int o656923, .ref q657166, .int p656817, .int p656818, .int p656819, .ref qo656820, .ref qo656821, .int p656822]) := (n657190 q656807 (rn_oo he657176 he657182 (by decide))).trans he657176
      have he657192 : F657188 q656809 = .inl (I .byte, 8192, .inl f656830) := (n657190 q656809 (rn_ao he657177 he657182)).trans he657177
      have he657193 : F657188 q656808 = .inr (20, [.int 20, .int p656814, .int p656825, .int p656826, .int p656827, .int p656828, .int p656829]) := e657189
      have hfr657194 : rFr [q656808, q656807] P656805 F656806 F657188 := rFr_put' List.mem_cons_self hfr657183 n657190
      have tp657195 : tP I P657172 F657188 o657163 q657166 qo656821 qo656820 := tP_put x657170 he657182 (by decide) n657190
      exact G_vretA dr_cX14_row_60 rfl (show (16 * (o657162.toInt - p656811.toInt) + 0 : Int).toNat ≤ ((16 * (p656810.toInt - p656811.toInt)).toNat + 9) by omega) (show (160 * (o657162.toInt - p656811.toInt) + 0 : Int).toNat ≤ ((160 * (p656810.toInt - p656811.toInt)).toNat + 71) by omega) ⟨P657172, F657188, o657162, o657163, o657164, o657165, o656923, q657166, 20, p656814, p656825, p656826, p656828, p656829, rfl, rfl, hsb657181, hfr657194, he657193, he657191, he657192, (by omega), (by omega), bo657162, bo657163, bo657164, bo656923, (gB_w (gBl (show Int32.toInt 20 = 20 by decide)) (by decide) (by decide)), (gB_w bv656891 (by decide) (by decide)), bp656828, bp656829, (by have qa0 : Int32.toInt 20 = 20 := (by decide); omega), (prP_le x657168 (by omega)), (by have qa0 : Int32.toInt 20 = 20 := (by decide); omega), tp657195, x657171, x656836, x656837, (Or.inr (by decide)), (Or.inr (Or.inl (by decide))), (show nzK p656812 by unfold nzK; omega), ⟨by omega, Or.inr (by omega)⟩⟩
  · have r657196 : o656846.toInt ≠ 0 := gj_neq hc656848 (show Int32.toInt 0 = 0 by decide)
    have bo656846' : gB o656846 1 1 := ⟨by omega, by omega⟩
    refine G_aload_n 0 dr_cX14_row_9 rfl ?_
    refine Gw_callV (As := []) (gV_ok D I) (cp_653656_Reader_next l hl0 D I P656805 F656806 q656807 q656809 p656810 p656811 p656812 p656813 p656814 p656815 qo656816 p656817 p656818 p656819 qo656820 qo656821 p656822 f656830 hmq656807 hmq656809 heq656807 heq656809 bp656810 bp656811 bp656812 bp656813 bp656815 bp656817 bp656818 bp656819 bp656822 bf656830 (by omega) x656832 x656833) dr_cX14_row_10 ⟨wr_7_211, wr_1_32, wr_7_214, by decide, rfl, (Nat.le_of_ble_eq_true rfl), (Nat.le_of_ble_eq_true rfl)⟩ wr_7_213 wr_p_75 hmq656807 heq656807 rfl (show 0 + ((16 * (p656810.toInt - p656811.toInt)).toNat) ≤ ((16 * (p656810.toInt - p656811.toInt)).toNat + 9) by first | omega | decide) (show 0 + ((160 * (p656810.toInt - p656811.toInt)).toNat) ≤ ((160 * (p656810.toInt - p656811.toInt)).toNat + 71) by first | omega | decide) (Nat.le_of_ble_eq_true rfl) (fun r657200 w657201 dc657197 ds657198 hp657199 => ?_) (fun _ _ _ _ _ z => z.elim)
    obtain ⟨P657212, F657213, o657202, o657203, o657204, o657205, q657206, rfl, rfl, hsb657214, hfr657215, he657216, he657217, hdc, hds, bo657202, bo657203, bo657204, x657207, x657208, x657209, x657210, x657211⟩ := hp657199
    have hm657218 : q656807 ∈ P657212 := hsb657214 q656807 hmq656807
    have hm657219 : q656808 ∈ P657212 := hsb657214 q656808 hmq656808
    have hm657220 : q656809 ∈ P657212 := hsb657214 q656809 hmq656809
    have hsb657221 : rSub P656805 P657212 := rSub_tr (rSub_rf (P := P656805)) hsb657214
    have he657222 : F657213 q656808 = .inr (20, [.int p656823, .int p656824, .int p656825, .int p656826, .int p656827, .int p656828, .int p656829]) := (hfr657215 q656808 hmq656808 (nm_c (rn_oo heq656808 heq656807 (by decide)) nm_n)).trans heq656808
    have hfr657223 : rFr [q656807] P656805 F656806 F657213 := rFr_call (rSub_rf (P := P656805)) (rFr_rf (W := []) (P := P656805) (F := F656806)) hfr657215 (fun b hb hn => ⟨nm_n, (nm_c (fun e => hn (e ▸ List.mem_cons_self)) nm_n)⟩)
    have bo657205 := gB_any o657205
    change G _ _ _ _ _ _ _ _ _ _ _
    refine G_widen (cs' := (16 * (o657202.toInt - p656811.toInt)).toNat) (sl' := (160 * (o657202.toInt - p656811.toInt)).toNat) (by omega) (by omega) ?_
    have x657224 : p656811.toInt ≤ o657202.toInt := by omega
    have x657225 : p656811.toInt + 0 ≤ p656811.toInt := by omega
    have x657226 : p656811.toInt + 0 ≤ o657202.toInt := by omega
    have x657227 : prQ o657203 (p656811.toInt + 1) o657202 := prP_q x657208 x657225 (by omega)
    refine G_widen (cs' := (16 * (o657202.toInt - p656811.toInt) + 0 : Int).toNat) (sl' := (160 * (o657202.toInt - p656811.toInt) + 0 : Int).toNat) (by omega) (by omega) ?_
    clear bo656846 hsb657214 hfr657215; try clear r656844; try clear w656845; try clear dc656841; try clear ds656842; try clear hp656843; try clear r657200; try clear w657201; try clear dc657197; try clear ds657198; try clear hp657199
    refine G_aload_n 1 dr_cX14_row_13 rfl ?_
    refine G_bipush 22 dr_cX14_row_14 (by decide +kernel) ?_
    refine Gp_put 0 hm657219 he657222 dr_cX14_row_16 (gk_X15 D I) (Nat.le_of_ble_eq_true rfl) wr_9_175 rfl rfl rfl (Nat.le_of_ble_eq_true rfl) (fun F657228 e657229 n657230 => ?_)
    have he657231 : F657228 q656807 = .inr (19, [.ref q656809, .int p656810, .int o657202, .int o657203, .int o657204, .int o657205, .int p656812, .ref q657206, .int p656817, .int p656818, .int p656819, .ref qo656820, .ref qo656821, .int p656822]) := (n657230 q656807 (rn_oo he657216 he657222 (by decide))).trans he657216
    have he657232 : F657228 q656809 = .inl (I .byte, 8192, .inl f656830) := (n657230 q656809 (rn_ao he657217 he657222)).trans he657217
    have he657233 : F657228 q656808 = .inr (20, [.int 22, .int p656824, .int p656825, .int p656826, .int p656827, .int p656828, .int p656829]) := e657229
    have hfr657234 : rFr [q656808, q656807] P656805 F656806 F657228 := rFr_put hfr657223 n657230
    have tp657235 : tP I P657212 F657228 o657203 q657206 qo656821 qo656820 := tP_put x657210 he657222 (by decide) n657230
    refine G_aload_n 0 dr_cX14_row_19 rfl ?_
    refine G_aload_n 1 dr_cX14_row_20 rfl ?_
    refine G_iconst 0 dr_cX14_row_21 (by decide +kernel) ?_
    refine Gw_callV (As := [.ref q656808, .int 0]) (gV_ok D I) (cp_655871_Reader_operand l hl0 D I P657212 F657228 q656807 q656808 q656809 0 p656810 o657202 o657203 o657204 o657205 p656812 q657206 p656817 p656818 p656819 qo656820 qo656821 p656822 22 p656824 p656825 p656826 p656827 p656828 p656829 f656830 hm657218 hm657219 hm657220 he657231 he657233 he657232 (gB_w (gBl (show Int32.toInt 0 = 0 by decide)) (by decide) (by decide)) bp656810 bo657202 bo657203 bo657204 bp656812 bp656817 bp656818 bp656819 bp656822 (gB_w (gBl (show Int32.toInt 22 = 22 by decide)) (by decide) (by decide)) bp656824 bp656827 bp656828 bp656829 bf656830 (by have qa0 : Int32.toInt 22 = 22 := (by decide); omega) (hsb657221 _ x656832) (hsb657221 _ x656833) tp657235 x657211 x656836 x656837 (Or.inr (by decide))) dr_cX14_row_22 ⟨wr_10_85, wr_1_32, wr_10_88, by decide, rfl, (Nat.le_of_ble_eq_true rfl), (Nat.le_of_ble_eq_true rfl)⟩ wr_10_87 wr_p_89 hm657218 he657231 rfl (show (16 * (o657202.toInt - p656811.toInt) + 0 : Int).toNat + ((16 * (p656810.toInt - o657202.toInt)).toNat + 1) ≤ ((16 * (p656810.toInt - p656811.toInt)).toNat + 9) by first | omega | decide) (show (160 * (o657202.toInt - p656811.toInt) + 0 : Int).toNat + ((160 * (p656810.toInt - o657202.toInt)).toNat + 7) ≤ ((160 * (p656810.toInt - p656811.toInt)).toNat + 71) by first | omega | decide) (Nat.le_of_ble_eq_true rfl) (fun r657239 w657240 dc657236 ds657237 hp657238 => ?_) (fun _ qx657252 _ dc657250 ds657251 hx => by obtain ⟨P657248, F657249, rfl, rfl, hsb657241, hfr657242, hq657243, hqn657244, hwr657245, hdc657246, hds657247, x657253⟩ := hx; exact GT_outA rfl (show (16 * (o657202.toInt - p656811.toInt) + 0 : Int).toNat + dc657250 ≤ ((16 * (p656810.toInt - p656811.toInt)).toNat + 9) by omega) (show (160 * (o657202.toInt - p656811.toInt) + 0 : Int).toNat + ds657251 ≤ ((160 * (p656810.toInt - p656811.toInt)).toNat + 71) by omega) ⟨P657248, F657249, rfl, rfl, (rSub_tr hsb657221 hsb657241), (show rFr [q656808, q656807] P656805 F656806 F657249 from rFr_call hsb657221 hfr657234 hfr657242 (fun b hb hn => ⟨(nm_c (fun e => hn (e ▸ List.mem_cons_self)) (nm_c (fun e => hn (e ▸ (List.mem_cons_of_mem _ List.mem_cons_self))) nm_n)), nm_n⟩)), hq657243, (fun z => hqn657244 (hsb657221 _ z)), hwr657245, (by omega), (by omega), ⟨22, p656824, p656825, p656826, p656827, p656828, p656829, ((hfr657242 q656808 hm657219 nm_n).trans he657233), (gB_w (gBl (show Int32.toInt 22 = 22 by decide)) (by decide) (by decide)), bp656824, bp656827, bp656828, bp656829, (Or.inr (by decide)), x656836, x656837⟩⟩)
    obtain ⟨P657271, F657272, o657254, o657255, o657256, o657257, q657258, o657259, o657260, o657261, o657262, rfl, rfl, hsb657273, hfr657274, he657275, he657276, he657277, hdc, hds, bo657254, bo657255, bo657256, bo657261, bo657262, x657263, x657264, x657265, x657266, x657267, x657268, x657269, x657270⟩ := hp657238
    have hm657278 : q656807 ∈ P657271 := hsb657273 q656807 hm657218
    have hm657279 : q656808 ∈ P657271 := hsb657273 q656808 hm657219
    have hm657280 : q656809 ∈ P657271 := hsb657273 q656809 hm657220
    have hsb657281 : rSub P656805 P657271 := rSub_tr hsb657221 hsb657273
    have hfr657282 : rFr [q656808, q656807] P656805 F656806 F657272 := rFr_call hsb657221 hfr657234 hfr657274 (fun b hb hn => ⟨(nm_c (fun e => hn (e ▸ List.mem_cons_self)) (nm_c (fun e => hn (e ▸ (List.mem_cons_of_mem _ List.mem_cons_self))) nm_n)), (nm_c (fun e => hn (e ▸ List.mem_cons_self)) (nm_c (fun e => hn (e ▸ (List.mem_cons_of_mem _ List.mem_cons_self))) nm_n))⟩)
    have bo657257 := gB_any o657257
    have bo657259 := gB_any o657259
    have bo657260 := gB_any o657260
    change G _ _ _ _ _ _ _ _ _ _ _
    refine G_widen (cs' := (16 * (o657202.toInt - p656811.toInt) + 0 : Int).toNat + ((16 * (o657254.toInt - o657202.toInt)).toNat)) (sl' := (160 * (o657202.toInt - p656811.toInt) + 0 : Int).toNat + ((160 * (o657254.toInt - o657202.toInt)).toNat)) (by omega) (by omega) ?_
    have x657283 : p656811.toInt + 1 ≤ o657202.toInt := by have q := (prQ_le x657227 x657270); omega
    have x657284 : p656811.toInt + 1 ≤ o657254.toInt := by omega
    have x657285 : prQ o657255 (p656811.toInt + 2) o657254 := prP_q x657264 x657283 (by omega)
    exact G_vretA dr_cX14_row_25 rfl (show (16 * (o657202.toInt - p656811.toInt) + 0 : Int).toNat + ((16 * (o657254.toInt - o657202.toInt)).toNat) ≤ ((16 * (p656810.toInt - p656811.toInt)).toNat + 9) by omega) (show (160 * (o657202.toInt - p656811.toInt) + 0 : Int).toNat + ((160 * (o657254.toInt - o657202.toInt)).toNat) ≤ ((160 * (p656810.toInt - p656811.toInt)).toNat + 71) by omega) ⟨P657271, F657272, o657254, o657255, o657256, o657257, o657203, q657258, 22, p656824, o657259, o657260, o657261, o657262, rfl, rfl, hsb657281, hfr657282, he657275, he657276, he657277, (by omega), (by omega), bo657254, bo657255, bo657256, bo657203, (gB_w (gBl (show Int32.toInt 22 = 22 by decide)) (by decide) (by decide)), bp656824, bo657261, bo657262, (by have qa0 : Int32.toInt 22 = 22 := (by decide); omega), (prP_le x657264 (by omega)), (by have qa0 : Int32.toInt 22 = 22 := (by decide); omega), x657266, x657267, x657268, x657269, (Or.inr (by decide)), (Or.inr (Or.inr (by decide))), (isK_1 x656847 (by omega)), ⟨by omega, x657285⟩⟩
