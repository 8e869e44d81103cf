theorem dr_cJ7_copyOf_59c91_0 : decode cJ7_copyOf_59c91 0 = .ok (.iload_n 1, 1) := by decide +kernel
theorem dr_cJ7_copyOf_59c91_1 : decode cJ7_copyOf_59c91 1 = .ok (.aload_n 0, 1) := by decide +kernel
theorem dr_cJ7_copyOf_59c91_2 : decode cJ7_copyOf_59c91 2 = .ok (.arraylength, 1) := by decide +kernel
theorem dr_cJ7_copyOf_59c91_3 : decode cJ7_copyOf_59c91 3 = .ok (.if_icmp .ne 11, 3) := by decide +kernel
theorem dr_cJ7_copyOf_59c91_14 : decode cJ7_copyOf_59c91 14 = .ok (.iload_n 1, 1) := by decide +kernel
theorem dr_cJ7_copyOf_59c91_15 : decode cJ7_copyOf_59c91 15 = .ok (.newarray .int, 2) := by decide +kernel
theorem wr_1_95 : (Jvm.Cond.arrayClass Jvm.ClassFile.FieldType.int) ∈ gw := gw_1 95 rfl rfl
theorem dr_cJ7_copyOf_59c91_17 : decode cJ7_copyOf_59c91 17 = .ok (.astore_n 2, 1) := by decide +kernel
theorem dr_cJ7_copyOf_59c91_18 : decode cJ7_copyOf_59c91 18 = .ok (.aload_n 0, 1) := by decide +kernel
theorem dr_cJ7_copyOf_59c91_19 : decode cJ7_copyOf_59c91 19 = .ok (.iconst 0, 1) := by decide +kernel
theorem dr_cJ7_copyOf_59c91_20 : decode cJ7_copyOf_59c91 20 = .ok (.aload_n 2, 1) := by decide +kernel
theorem dr_cJ7_copyOf_59c91_21 : decode cJ7_copyOf_59c91 21 = .ok (.iconst 0, 1) := by decide +kernel
theorem dr_cJ7_copyOf_59c91_22 : decode cJ7_copyOf_59c91 22 = .ok (.aload_n 0, 1) := by decide +kernel
theorem dr_cJ7_copyOf_59c91_23 : decode cJ7_copyOf_59c91 23 = .ok (.arraylength, 1) := by decide +kernel
theorem dr_cJ7_copyOf_59c91_24 : decode cJ7_copyOf_59c91 24 = .ok (.iload_n 1, 1) := by decide +kernel
theorem dr_cJ7_copyOf_59c91_25 : decode cJ7_copyOf_59c91 25 = .ok (.invokestatic 304, 3) := by decide +kernel
theorem dr_cJ7_copyOf_59c91_28 : decode cJ7_copyOf_59c91 28 = .ok (.invokestatic 150, 3) := by decide +kernel
theorem dr_cJ7_copyOf_59c91_31 : decode cJ7_copyOf_59c91 31 = .ok (.aload_n 2, 1) := by decide +kernel
theorem dr_cJ7_copyOf_59c91_32 : decode cJ7_copyOf_59c91 32 = .ok (.areturn, 1) := by decide +kernel
theorem dr_cX14_goal_0 : decode cX14_goal 0 = .ok (.aload_n 0, 1) := by decide +kernel
theorem dr_cX14_goal_1 : decode cX14_goal 1 = .ok (.getfield 143, 3) := by decide +kernel
theorem wr_9_51 : (Jvm.Cond.fieldLink "SpillForgeModel$Reader" (143 : Nat) "SpillForgeModel$Reader" "goalN" "I") ∈ gw := gw_9 51 rfl rfl
theorem dr_cX14_goal_4 : decode cX14_goal 4 = .ok (.aload_n 0, 1) := by decide +kernel
theorem dr_cX14_goal_5 : decode cX14_goal 5 = .ok (.getfield 25, 3) := by decide +kernel
theorem wr_9_50 : (Jvm.Cond.fieldLink "SpillForgeModel$Reader" (25 : Nat) "SpillForgeModel$Reader" "goals" "[I") ∈ gw := gw_9 50 rfl rfl
theorem dr_cX14_goal_8 : decode cX14_goal 8 = .ok (.arraylength, 1) := by decide +kernel
theorem dr_cX14_goal_9 : decode cX14_goal 9 = .ok (.if_icmp .ne 37, 3) := by decide +kernel
theorem dr_cX14_goal_46 : decode cX14_goal 46 = .ok (.aload_n 0, 1) := by decide +kernel
theorem dr_cX14_goal_47 : decode cX14_goal 47 = .ok (.getfield 21, 3) := by decide +kernel
theorem wr_9_49 : (Jvm.Cond.fieldLink "SpillForgeModel$Reader" (21 : Nat) "SpillForgeModel$Reader" "goalPlaces" "[I") ∈ gw := gw_9 49 rfl rfl
theorem dr_cX14_goal_50 : decode cX14_goal 50 = .ok (.aload_n 0, 1) := by decide +kernel
theorem dr_cX14_goal_51 : decode cX14_goal 51 = .ok (.getfield 143, 3) := by decide +kernel
theorem dr_cX14_goal_54 : decode cX14_goal 54 = .ok (.aload_n 0, 1) := by decide +kernel
theorem dr_cX14_goal_55 : decode cX14_goal 55 = .ok (.getfield 47, 3) := by decide +kernel
theorem dr_cX14_goal_58 : decode cX14_goal 58 = .ok (.iastore, 1) := by decide +kernel
theorem dr_cX14_goal_59 : decode cX14_goal 59 = .ok (.aload_n 0, 1) := by decide +kernel
theorem dr_cX14_goal_60 : decode cX14_goal 60 = .ok (.iconst 3, 1) := by decide +kernel
theorem dr_cX14_goal_61 : decode cX14_goal 61 = .ok (.invokevirtual 152, 3) := by decide +kernel
theorem wr_9_93 : (Jvm.Cond.methodLink "SpillForgeModel$Reader" (152 : Nat) ({ cls := "SpillForgeModel$Reader", name := "want", desc := "(I)I" } : Jvm.MethodName)) ∈ gw := gw_9 93 rfl rfl
theorem wr_9_96 : (Jvm.Cond.code ({ cls := "SpillForgeModel$Reader", name := "want", desc := "(I)I" } : Jvm.MethodName) prog_17_method_11_code (3 : Nat) (Option.some Jvm.ClassFile.FieldType.int)) ∈ gw := gw_9 96 rfl rfl
theorem wr_9_95 : (Jvm.Cond.instanceMethod ({ cls := "SpillForgeModel$Reader", name := "want", desc := "(I)I" } : Jvm.MethodName)) ∈ gw := gw_9 95 rfl rfl
theorem wr_p_80 : Cond.selects "SpillForgeModel$Reader" ⟨"SpillForgeModel$Reader", "want", "(I)I"⟩ ⟨"SpillForgeModel$Reader", "want", "(I)I"⟩ ∈ gw := gw_p _ 80 rfl rfl rfl
theorem dr_cX14_goal_64 : decode cX14_goal 64 = .ok (.istore_n 1, 1) := by decide +kernel
theorem dr_cX14_goal_65 : decode cX14_goal 65 = .ok (.aload_n 0, 1) := by decide +kernel
theorem dr_cX14_goal_66 : decode cX14_goal 66 = .ok (.getfield 25, 3) := by decide +kernel
theorem dr_cX14_goal_69 : decode cX14_goal 69 = .ok (.aload_n 0, 1) := by decide +kernel
theorem dr_cX14_goal_70 : decode cX14_goal 70 = .ok (.getfield 143, 3) := by decide +kernel
theorem dr_cX14_goal_73 : decode cX14_goal 73 = .ok (.iload_n 1, 1) := by decide +kernel
theorem dr_cX14_goal_74 : decode cX14_goal 74 = .ok (.iastore, 1) := by decide +kernel
theorem dr_cX14_goal_75 : decode cX14_goal 75 = .ok (.aload_n 0, 1) := by decide +kernel
theorem dr_cX14_goal_76 : decode cX14_goal 76 = .ok (.dup, 1) := by decide +kernel
theorem dr_cX14_goal_77 : decode cX14_goal 77 = .ok (.getfield 143, 3) := by decide +kernel
theorem dr_cX14_goal_80 : decode cX14_goal 80 = .ok (.iconst 1, 1) := by decide +kernel
theorem dr_cX14_goal_81 : decode cX14_goal 81 = .ok (.iadd, 1) := by decide +kernel
theorem dr_cX14_goal_82 : decode cX14_goal 82 = .ok (.putfield 143, 3) := by decide +kernel
theorem dr_cX14_goal_85 : decode cX14_goal 85 = .ok (.iload_n 1, 1) := by decide +kernel
theorem dr_cX14_goal_86 : decode cX14_goal 86 = .ok (.ireturn, 1) := by decide +kernel
theorem dr_cX14_goal_12 : decode cX14_goal 12 = .ok (.aload_n 0, 1) := by decide +kernel
theorem dr_cX14_goal_13 : decode cX14_goal 13 = .ok (.aload_n 0, 1) := by decide +kernel
theorem dr_cX14_goal_14 : decode cX14_goal 14 = .ok (.getfield 25, 3) := by decide +kernel
theorem dr_cX14_goal_17 : decode cX14_goal 17 = .ok (.iconst 2, 1) := by decide +kernel
theorem dr_cX14_goal_18 : decode cX14_goal 18 = .ok (.aload_n 0, 1) := by decide +kernel
theorem dr_cX14_goal_19 : decode cX14_goal 19 = .ok (.getfield 143, 3) := by decide +kernel
theorem dr_cX14_goal_22 : decode cX14_goal 22 = .ok (.imul, 1) := by decide +kernel
theorem dr_cX14_goal_23 : decode cX14_goal 23 = .ok (.invokestatic 146, 3) := by decide +kernel
theorem wr_10_114 : (Jvm.Cond.methodLink "SpillForgeModel$Reader" (146 : Nat) ({ cls := "java/util/Arrays", name := "copyOf", desc := "([II)[I" } : Jvm.MethodName)) ∈ gw := gw_10 114 rfl rfl
theorem wr_10_116 : (Jvm.Cond.code ({ cls := "java/util/Arrays", name := "copyOf", desc := "([II)[I" } : Jvm.MethodName) prog_44_method_123_code (3 : Nat) (Option.some (Jvm.ClassFile.FieldType.array Jvm.ClassFile.FieldType.int))) ∈ gw := gw_10 116 rfl rfl
theorem wr_10_115 : (Jvm.Cond.static ({ cls := "java/util/Arrays", name := "copyOf", desc := "([II)[I" } : Jvm.MethodName)) ∈ gw := gw_10 115 rfl rfl
theorem dr_cX14_goal_26 : decode cX14_goal 26 = .ok (.putfield 25, 3) := by decide +kernel
theorem dr_cX14_goal_29 : decode cX14_goal 29 = .ok (.aload_n 0, 1) := by decide +kernel
theorem dr_cX14_goal_30 : decode cX14_goal 30 = .ok (.aload_n 0, 1) := by decide +kernel
theorem dr_cX14_goal_31 : decode cX14_goal 31 = .ok (.getfield 21, 3) := by decide +kernel
theorem dr_cX14_goal_34 : decode cX14_goal 34 = .ok (.iconst 2, 1) := by decide +kernel
theorem dr_cX14_goal_35 : decode cX14_goal 35 = .ok (.aload_n 0, 1) := by decide +kernel
theorem dr_cX14_goal_36 : decode cX14_goal 36 = .ok (.getfield 143, 3) := by decide +kernel
theorem dr_cX14_goal_39 : decode cX14_goal 39 = .ok (.imul, 1) := by decide +kernel
theorem dr_cX14_goal_40 : decode cX14_goal 40 = .ok (.invokestatic 146, 3) := by decide +kernel
theorem dr_cX14_goal_43 : decode cX14_goal 43 = .ok (.putfield 21, 3) := by decide +kernel
theorem dr_cX14_row_0 : decode cX14_row 0 = .ok (.aload_n 0, 1) := by decide +kernel
theorem dr_cX14_row_1 : decode cX14_row 1 = .ok (.ldc 179, 2) := by decide +kernel
theorem dr_cX14_row_3 : decode cX14_row 3 = .ok (.invokevirtual 132, 3) := by decide +kernel
theorem dr_cX14_row_6 : decode cX14_row 6 = .ok (.ifCond .eq 20, 3) := by decide +kernel
theorem dr_cX14_row_26 : decode cX14_row 26 = .ok (.aload_n 1, 1) := by decide +kernel
theorem dr_cX14_row_27 : decode cX14_row 27 = .ok (.aload_n 0, 1) := by decide +kernel
theorem dr_cX14_row_28 : decode cX14_row 28 = .ok (.iconst 2, 1) := by decide +kernel
theorem dr_cX14_row_29 : decode cX14_row 29 = .ok (.invokevirtual 152, 3) := by decide +kernel
theorem dr_cX14_row_32 : decode cX14_row 32 = .ok (.putfield 227, 3) := by decide +kernel
theorem wr_9_183 : (Jvm.Cond.fieldLink "SpillForgeModel$Reader" (227 : Nat) "SpillForgeModel$Row" "t" "I") ∈ gw := gw_9 183 rfl rfl
theorem dr_cX14_row_35 : decode cX14_row 35 = .ok (.aload_n 0, 1) := by decide +kernel
theorem dr_cX14_row_36 : decode cX14_row 36 = .ok (.ldc 229, 2) := by decide +kernel
theorem dr_cX14_row_38 : decode cX14_row 38 = .ok (.invokevirtual 173, 3) := by decide +kernel
theorem wr_9_137 : (Jvm.Cond.methodLink "SpillForgeModel$Reader" (173 : Nat) ({ cls := "SpillForgeModel$Reader", name := "want", desc := "(Ljava/lang/String;)V" } : Jvm.MethodName)) ∈ gw := gw_9 137 rfl rfl
theorem wr_9_140 : (Jvm.Cond.code ({ cls := "SpillForgeModel$Reader", name := "want", desc := "(Ljava/lang/String;)V" } : Jvm.MethodName) prog_17_method_10_code (2 : Nat) (Option.none : Option Jvm.ClassFile.FieldType)) ∈ gw := gw_9 140 rfl rfl
theorem wr_9_139 : (Jvm.Cond.instanceMethod ({ cls := "SpillForgeModel$Reader", name := "want", desc := "(Ljava/lang/String;)V" } : Jvm.MethodName)) ∈ gw := gw_9 139 rfl rfl
theorem wr_p_83 : Cond.selects "SpillForgeModel$Reader" ⟨"SpillForgeModel$Reader", "want", "(Ljava/lang/String;)V"⟩ ⟨"SpillForgeModel$Reader", "want", "(Ljava/lang/String;)V"⟩ ∈ gw := gw_p _ 83 rfl rfl rfl
theorem dr_cX14_row_41 : decode cX14_row 41 = .ok (.aload_n 0, 1) := by decide +kernel
theorem dr_cX14_row_42 : decode cX14_row 42 = .ok (.ldc 231, 2) := by decide +kernel
theorem dr_cX14_row_44 : decode cX14_row 44 = .ok (.invokevirtual 132, 3) := by decide +kernel
theorem dr_cX14_row_47 : decode cX14_row 47 = .ok (.ifCond .eq 14, 3) := by decide +kernel
theorem dr_cX14_row_61 : decode cX14_row 61 = .ok (.aload_n 0, 1) := by decide +kernel
theorem dr_cX14_row_62 : decode cX14_row 62 = .ok (.aload_n 1, 1) := by decide +kernel
theorem dr_cX14_row_63 : decode cX14_row 63 = .ok (.iconst 0, 1) := by decide +kernel
theorem dr_cX14_row_64 : decode cX14_row 64 = .ok (.invokevirtual 223, 3) := by decide +kernel
theorem wr_10_89 : (Jvm.Cond.methodLink "SpillForgeModel$Reader" (223 : Nat) ({ cls := "SpillForgeModel$Reader", name := "operand", desc := "(LSpillForgeModel$Row;Z)V" } : Jvm.MethodName)) ∈ gw := gw_10 89 rfl rfl
theorem wr_10_92 : (Jvm.Cond.code ({ cls := "SpillForgeModel$Reader", name := "operand", desc := "(LSpillForgeModel$Row;Z)V" } : Jvm.MethodName) prog_17_method_16_code (4 : Nat) (Option.none : Option Jvm.ClassFile.FieldType)) ∈ gw := gw_10 92 rfl rfl
theorem wr_10_91 : (Jvm.Cond.instanceMethod ({ cls := "SpillForgeModel$Reader", name := "operand", desc := "(LSpillForgeModel$Row;Z)V" } : Jvm.MethodName)) ∈ gw := gw_10 91 rfl rfl
theorem wr_p_89 : Cond.selects "SpillForgeModel$Reader" ⟨"SpillForgeModel$Reader", "operand", "(LSpillForgeModel$Row;Z)V"⟩ ⟨"SpillForgeModel$Reader", "operand", "(LSpillForgeModel$Row;Z)V"⟩ ∈ gw := gw_p _ 89 rfl rfl rfl
theorem dr_cX14_row_67 : decode cX14_row 67 = .ok (.aload_n 1, 1) := by decide +kernel
theorem dr_cX14_row_68 : decode cX14_row 68 = .ok (.aload_n 0, 1) := by decide +kernel
theorem dr_cX14_row_69 : decode cX14_row 69 = .ok (.getfield 38, 3) := by decide +kernel
theorem dr_cX14_row_72 : decode cX14_row 72 = .ok (.iconst 5, 1) := by decide +kernel
theorem dr_cX14_row_73 : decode cX14_row 73 = .ok (.if_icmp .ne 13, 3) := by decide +kernel
theorem dr_cX14_row_86 : decode cX14_row 86 = .ok (.iconst 0, 1) := by decide +kernel
theorem dr_cX14_row_87 : decode cX14_row 87 = .ok (.putfield 220, 3) := by decide +kernel
theorem wr_9_179 : (Jvm.Cond.fieldLink "SpillForgeModel$Reader" (220 : Nat) "SpillForgeModel$Row" "op" "I") ∈ gw := gw_9 179 rfl rfl
theorem dr_cX14_row_90 : decode cX14_row 90 = .ok (.aload_n 1, 1) := by decide +kernel
theorem dr_cX14_row_91 : decode cX14_row 91 = .ok (.getfield 220, 3) := by decide +kernel
theorem dr_cX14_row_94 : decode cX14_row 94 = .ok (.ifCond .ne 4, 3) := by decide +kernel
theorem dr_cX14_row_97 : decode cX14_row 97 = .ok (.return_, 1) := by decide +kernel
theorem dr_cX14_row_76 : decode cX14_row 76 = .ok (.aload_n 0, 1) := by decide +kernel
theorem dr_cX14_row_77 : decode cX14_row 77 = .ok (.getfield 11, 3) := by decide +kernel
theorem dr_cX14_row_80 : decode cX14_row 80 = .ok (.invokestatic 233, 3) := by decide +kernel
theorem wr_10_97 : (Jvm.Cond.code ({ cls := "SpillForgeModel", name := "operation", desc := "(Ljava/lang/String;)I" } : Jvm.MethodName) prog_14_method_1_code (4 : Nat) (Option.some Jvm.ClassFile.FieldType.int)) ∈ gw := gw_10 97 rfl rfl
theorem wr_10_96 : (Jvm.Cond.static ({ cls := "SpillForgeModel", name := "operation", desc := "(Ljava/lang/String;)I" } : Jvm.MethodName)) ∈ gw := gw_10 96 rfl rfl
theorem dr_cX14_row_83 : decode cX14_row 83 = .ok (.goto 4, 3) := by decide +kernel
theorem dr_cX14_row_98 : decode cX14_row 98 = .ok (.aload_n 0, 1) := by decide +kernel
theorem dr_cX14_row_99 : decode cX14_row 99 = .ok (.invokevirtual 35, 3) := by decide +kernel
theorem dr_cX14_row_102 : decode cX14_row 102 = .ok (.aload_n 0, 1) := by decide +kernel
theorem dr_cX14_row_103 : decode cX14_row 103 = .ok (.aload_n 1, 1) := by decide +kernel
theorem dr_cX14_row_104 : decode cX14_row 104 = .ok (.iconst 1, 1) := by decide +kernel
theorem dr_cX14_row_105 : decode cX14_row 105 = .ok (.invokevirtual 223, 3) := by decide +kernel
theorem dr_cX14_row_108 : decode cX14_row 108 = .ok (.return_, 1) := by decide +kernel
theorem dr_cX14_row_50 : decode cX14_row 50 = .ok (.aload_n 0, 1) := by decide +kernel
theorem dr_cX14_row_51 : decode cX14_row 51 = .ok (.invokevirtual 35, 3) := by decide +kernel
theorem dr_cX14_row_54 : decode cX14_row 54 = .ok (.aload_n 1, 1) := by decide +kernel
theorem dr_cX14_row_55 : decode cX14_row 55 = .ok (.bipush 20, 2) := by decide +kernel
theorem dr_cX14_row_57 : decode cX14_row 57 = .ok (.putfield 220, 3) := by decide +kernel
theorem dr_cX14_row_60 : decode cX14_row 60 = .ok (.return_, 1) := by decide +kernel
theorem dr_cX14_row_9 : decode cX14_row 9 = .ok (.aload_n 0, 1) := by decide +kernel
theorem dr_cX14_row_10 : decode cX14_row 10 = .ok (.invokevirtual 35, 3) := by decide +kernel
theorem dr_cX14_row_13 : decode cX14_row 13 = .ok (.aload_n 1, 1) := by decide +kernel
theorem dr_cX14_row_14 : decode cX14_row 14 = .ok (.bipush 22, 2) := by decide +kernel
theorem dr_cX14_row_16 : decode cX14_row 16 = .ok (.putfield 220, 3) := by decide +kernel
theorem dr_cX14_row_19 : decode cX14_row 19 = .ok (.aload_n 0, 1) := by decide +kernel
theorem dr_cX14_row_20 : decode cX14_row 20 = .ok (.aload_n 1, 1) := by decide +kernel
theorem dr_cX14_row_21 : decode cX14_row 21 = .ok (.iconst 0, 1) := by decide +kernel
theorem dr_cX14_row_22 : decode cX14_row 22 = .ok (.invokevirtual 223, 3) := by decide +kernel
theorem dr_cX14_row_25 : decode cX14_row 25 = .ok (.return_, 1) := by decide +kernel
abbrev ky_656671_Arrays_copyOf : gKey := (cJ7_copyOf_59c91, 3, "java/util/Arrays", (some (FieldType.array FieldType.int)), [], "copyOf", fun _ _ => True)
def pp_656671_Arrays_copyOf (D : va_G) (I : FieldType → ClassId) (P656663 : List Nat) (F656664 : Nat → va_E) (q656665 : Nat) (p656666 : Int32) (f656667 : Nat → Int32) (n656668 : Nat) : Option Value → va_W → Nat → Nat → Prop := fun r w dc ds => ∃ (P656701 : List Nat) (F656702 : Nat → va_E) (q656699 : Nat) (f656700 : Nat → Int32), r = some (.ref q656699) ∧ w = va_pl P656701 F656702 ∧ rSub P656663 P656701 ∧ rFr [] P656663 F656664 F656702 ∧ F656702 q656665 = .inl (I .int, n656668, .inl f656667) ∧ F656702 q656699 = .inl (I .int, p656666.toInt.toNat, .inl f656700) ∧ q656699 ∈ P656701 ∧ q656699 ∉ P656663 ∧ dc ≤ 1 ∧ ds ≤ p656666.toInt.toNat ∧ (p656666.toInt.toNat : Int) = p656666.toInt ∧ glC f656667 f656700 (n656668 : Int) ∧ glB f656667 f656700
set_option maxRecDepth 100000 in
set_option maxHeartbeats 4000000 in
theorem cp_656671_Arrays_copyOf (l : Launch) (hl0 : l.stackTraces = false) (D : va_G) (I : FieldType → ClassId) (P656663 : List Nat) (F656664 : Nat → va_E) (q656665 : Nat) (p656666 : Int32) (f656667 : Nat → Int32) (n656668 : Nat) (hmq656665 : q656665 ∈ P656663) (heq656665 : F656664 q656665 = .inl (I .int, n656668, .inl f656667)) (bp656666 : gB p656666 32 32768) (x656669 : (n656668 : Int) < p656666.toInt) (x656670 : ((n656668 : Int) ≤ 16777216)) : CtA (gV D I) l yJ7_copyOf_59c91 cJ7_copyOf_59c91 3 (some (FieldType.array FieldType.int)) 1 18 1 p656666.toInt.toNat [.ref q656665, .int p656666] (va_pl P656663 F656664) (pp_656671_Arrays_copyOf D I P656663 F656664 q656665 p656666 f656667 n656668) gNA := by
  refine CtA_ofF hl0 (by decide +kernel) (Nat.le_of_ble_eq_true rfl) ?_
  refine G_iload_n 1 dr_cJ7_copyOf_59c91_0 rfl ?_
  refine G_aload_n 0 dr_cJ7_copyOf_59c91_1 rfl ?_
  refine Gp_alen (Int32.ofNat n656668) 0 hmq656665 heq656665 dr_cJ7_copyOf_59c91_2 rfl rfl (G_nam fun z656672 hz656672 => ?_)
  have ez656672 : z656672.toInt = (n656668 : Nat) := gI_ofM hz656672 (by omega)
  have bz656672 : gB z656672 0 16777216 := ⟨by omega, by omega⟩
  refine G_icmp_ne 14 dr_cJ7_copyOf_59c91_3 (by decide +kernel) (fun hc656673 => ?_) (fun hc => absurd (show False by have := gC_eq hc; omega) not_false)
  have r656675 : p656666.toInt ≠ z656672.toInt := gC_ne hc656673
  refine G_iload_n 1 dr_cJ7_copyOf_59c91_14 rfl ?_
  refine G_newa 0 (p656666.toInt.toNat, .inl (fun _ => 0)) dr_cJ7_copyOf_59c91_15 rfl rfl (by intro C h; cases h) wr_1_95 (fun _ => ga_int _ _) (g_n0 (by omega)) rfl (show p656666.toInt.toNat * 4 ≤ 536870912 by omega) (show 0 + 1 ≤ 1 by first | omega | decide) (show 0 + p656666.toInt.toNat ≤ p656666.toInt.toNat by first | omega | decide) (fun q656676 => Gp_in (fun P656677 F656678 hq656679 hP656680 e656681 n656682 => ?_))
  refine G_widen (cs' := 1) (sl' := p656666.toInt.toNat) (by omega) (by omega) ?_
  have he656683 : F656678 q656665 = .inl (I .int, n656668, .inl f656667) := (n656682 q656665 (fun h => hq656679 (h ▸ hmq656665))).trans heq656665
  have he656684 : F656678 q656676 = .inl (I .int, p656666.toInt.toNat, .inl (fun _ => 0)) := e656681
  have hm656685 : q656665 ∈ P656677 := (hP656680 q656665).mpr (Or.inl hmq656665)
  have hm656686 : q656676 ∈ P656677 := (hP656680 q656676).mpr (Or.inr rfl)
  have hq656687 : q656676 ∉ P656663 := fun z => hq656679 ((rSub_rf (P := P656663)) q656676 z)
  have hfr656688 : rFr [] P656663 F656664 F656678 := rFr_new (rSub_rf (P := P656663)) hq656679 (rFr_rf (W := []) (P := P656663) (F := F656664)) n656682
  have hsb656689 : rSub P656663 P656677 := rSub_new (rSub_rf (P := P656663)) hP656680
  refine G_astore_n (L' := [(2, .ref q656676), (0, .ref q656665), (1, .int p656666)]) dr_cJ7_copyOf_59c91_17 (Nat.le_of_ble_eq_true rfl) rfl ?_
  refine G_aload_n 1 dr_cJ7_copyOf_59c91_18 rfl ?_
  refine G_iconst 0 dr_cJ7_copyOf_59c91_19 (by decide +kernel) ?_
  refine G_aload_n 0 dr_cJ7_copyOf_59c91_20 rfl ?_
  refine G_iconst 0 dr_cJ7_copyOf_59c91_21 (by decide +kernel) ?_
  refine G_aload_n 1 dr_cJ7_copyOf_59c91_22 rfl ?_
  refine Gp_alen (Int32.ofNat n656668) 0 hm656685 he656683 dr_cJ7_copyOf_59c91_23 rfl rfl (G_nam fun z656690 hz656690 => ?_)
  have ez656690 : z656690.toInt = (n656668 : Nat) := gI_ofM hz656690 (by omega)
  have bz656690 : gB z656690 0 16777216 := ⟨by omega, by omega⟩
  refine G_iload_n 2 dr_cJ7_copyOf_59c91_24 rfl ?_
  refine G_mmin dr_cJ7_copyOf_59c91_25 wr_8_31 wr_3_227 wr_1_6 wr_3_228 (Nat.le_of_ble_eq_true rfl) (Nat.le_of_ble_eq_true rfl) (show 1 ≤ 1 by first | omega | decide) (show p656666.toInt.toNat ≤ p656666.toInt.toNat by first | omega | decide) (G_nam fun z656691 hz656691 => ?_)
  have ez656691 : z656690.toInt ≥ z656691.toInt ∧ p656666.toInt ≥ z656691.toInt ∧ (z656691.toInt = z656690.toInt ∨ z656691.toInt = p656666.toInt) := by have := gI_min hz656691; omega
  have bz656691 : gB z656691 0 32768 := ⟨by omega, by omega⟩
  refine Gp_copyp 0 hm656685 hm656686 he656683 he656684 dr_cJ7_copyOf_59c91_28 wr_8_32 wr_5_113 wr_5_112 wr_1_34 rfl rfl (fun _ => rfl) (by decide) (by decide) (by omega) (by have qa0 : Int32.toInt 0 = 0 := (by decide); omega) (by have qa0 : Int32.toInt 0 = 0 := (by decide); omega) (Nat.le_of_ble_eq_true rfl) (Nat.le_of_ble_eq_true rfl) (fun F656692 e656693 n656694 => ?_)
  obtain ⟨f656695, hf656695⟩ : ∃ z, z = va_cpy f656667 (fun _ => 0) (0 : Int32).toNatClampNeg (0 : Int32).toNatClampNeg z656691.toNatClampNeg := ⟨_, rfl⟩
  rw [← hf656695] at e656693
  have he656696 : F656692 q656665 = .inl (I .int, n656668, .inl f656667) := (n656694 q656665 (fun h => hq656687 (h ▸ hmq656665))).trans he656683
  have he656697 : F656692 q656676 = .inl (I .int, p656666.toInt.toNat, .inl f656695) := e656693
  have hfr656698 : rFr [] P656663 F656664 F656692 := rFr_newp hq656687 hfr656688 n656694
  refine G_aload_n 0 dr_cJ7_copyOf_59c91_31 rfl ?_
  exact G_aretA (FieldType.array FieldType.int) dr_cJ7_copyOf_59c91_32 rfl (by first | exact Or.inl ⟨_, rfl⟩ | exact Or.inr ⟨_, rfl⟩) (Or.inr ⟨_, rfl⟩) (Nat.le_of_ble_eq_true rfl) (show p656666.toInt.toNat ≤ p656666.toInt.toNat by omega) ⟨P656677, F656692, q656676, f656695, rfl, rfl, hsb656689, hfr656698, he656696, he656697, hm656686, hq656687, (Nat.le_of_ble_eq_true rfl), (by omega), (by omega), (glC_cpy hf656695 (by decide) (by decide) (by omega)), (glB_cpy hf656695)⟩
abbrev ky_656584_Reader_goal : gKey := (cX14_goal, 2, "SpillForgeModel$Reader", (some FieldType.int), [], "goal", fun _ _ => True)
def pp_656584_Reader_goal (D : va_G) (I : FieldType → ClassId) (P656551 : List Nat) (F656552 : Nat → va_E) (q656553 : Nat) (q656554 : Nat) (q656555 : Nat) (q656556 : Nat) (p656557 : Int32) (p656558 : Int32) (p656559 : Int32) (p656560 : Int32) (p656561 : Int32) (p656562 : Int32) (qo656563 : Nat) (p656564 : Int32) (p656565 : Int32) (p656566 : Int32) (p656567 : Int32) (f656568 : Nat → Int32) (f656569 : Nat → Int32) (n656570 : Nat) (f656571 : Nat → Int32) (n656572 : Nat) : Option Value → va_W → Nat → Nat → Prop := fun r w dc ds => ∃ (P656909 : List Nat) (F656910 : Nat → va_E) (o656897 : Int32) (o656898 : Int32) (o656899 : Int32) (o656900 : Int32) (q656901 : Nat) (o656902 : Int32) (q656903 : Nat) (n656904 : Nat) (f656905 : Nat → Int32) (q656906 : Nat) (n656907 : Nat) (f656908 : Nat → Int32), r = some (.int p656561) ∧ w = va_pl P656909 F656910 ∧ rSub P656551 P656909 ∧ rFr [q656556, q656555, q656553] P656551 F656552 F656910 ∧ F656910 q656903 = .inl (I .int, n656904, .inl f656905) ∧ F656910 q656906 = .inl (I .int, n656907, .inl f656908) ∧ F656910 q656553 = .inr (19, [.ref q656554, .int p656557, .int o656897, .int o656898, .int o656899, .int o656900, .int p656559, .ref q656901, .int p656564, .int p656565, .int p656566, .ref q656903, .ref q656906, .int o656902]) ∧ F656910 q656554 = .inl (I .byte, 8192, .inl f656568) ∧ q656903 ∈ P656909 ∧ (q656903 = q656555 ∨ q656903 ∉ P656551) ∧ q656906 ∈ P656909 ∧ (q656906 = q656556 ∨ q656906 ∉ P656551) ∧ dc ≤ (16 * (o656897.toInt - p656558.toInt)).toNat + 2 ∧ ds ≤ (160 * (o656897.toInt - p656558.toInt)).toNat + 4 * (n656907 - n656572) ∧ gB o656897 0 8192 ∧ gB o656898 0 6 ∧ gB o656899 0 8192 ∧ gB o656902 1 1000000 ∧ p656558.toInt ≤ o656897.toInt ∧ prP o656898 p656558 o656897 ∧ o656897.toInt ≤ p656557.toInt ∧ tP I P656909 F656910 o656898 q656901 q656906 q656903 ∧ vP o656898 o656900 ∧ vP 3 p656561 ∧ p656559.toInt = 3 ∧ (n656907 : Int) ≤ 2 * (n656572 : Int) ∧ q656906 ≠ q656903 ∧ glC f656571 f656908 p656567.toInt ∧ glL f656908 p656567 p656561 ∧ glP f656905 ∧ (n656907 : Int) = (n656904 : Int) ∧ o656902.toInt = p656567.toInt + 1 ∧ o656902.toInt ≤ (n656907 : Int) ∧ 16 ≤ (n656907 : Int) ∧ (n656907 : Int) ≤ 2 * o656902.toInt + 16 ∧ (n656572 : Int) ≤ (n656907 : Int)
def xp_656584_Reader_goal (D : va_G) (I : FieldType → ClassId) (P656551 : List Nat) (F656552 : Nat → va_E) (q656553 : Nat) (q656554 : Nat) (q656555 : Nat) (q656556 : Nat) (p656557 : Int32) (p656558 : Int32) (p656559 : Int32) (p656560 : Int32) (p656561 : Int32) (p656562 : Int32) (qo656563 : Nat) (p656564 : Int32) (p656565 : Int32) (p656566 : Int32) (p656567 : Int32) (f656568 : Nat → Int32) (f656569 : Nat → Int32) (n656570 : Nat) (f656571 : Nat → Int32) (n656572 : Nat) : String → Nat → va_W → Nat → Nat → Prop := fun E q w dc ds => ∃ (P656912 : List Nat) (F656911 : Nat → va_E), E = "SpillForgeModel$Wrong" ∧ w = va_pl P656912 F656911 ∧ rSub P656551 P656912 ∧ rFr [q656555, q656553] P656551 F656552 F656911 ∧ q ∈ P656912 ∧ q ∉ P656551 ∧ wrF F656911 q ∧ dc ≤ (16 * (p656557.toInt - p656558.toInt)).toNat + 3 ∧ ds ≤ (160 * (p656557.toInt - p656558.toInt)).toNat + 4 * n656572 + 7
set_option maxRecDepth 100000 in
set_option maxHeartbeats 4000000 in
theorem cp_656584_Reader_goal (l : Launch) (hl0 : l.stackTraces = false) (D : va_G) (I : FieldType → ClassId) (P656551 : List Nat) (F656552 : Nat → va_E) (q656553 : Nat) (q656554 : Nat) (q656555 : Nat) (q656556 : Nat) (p656557 : Int32) (p656558 : Int32) (p656559 : Int32) (p656560 : Int32) (p656561 : Int32) (p656562 : Int32) (qo656563 : Nat) (p656564 : Int32) (p656565 : Int32) (p656566 : Int32) (p656567 : Int32) (f656568 : Nat → Int32) (f656569 : Nat → Int32) (n656570 : Nat) (f656571 : Nat → Int32) (n656572 : Nat) (hmq656553 : q656553 ∈ P656551) (hmq656554 : q656554 ∈ P656551) (hmq656555 : q656555 ∈ P656551) (hmq656556 : q656556 ∈ P656551) (heq656553 : F656552 q656553 = .inr (19, [.ref q656554, .int p656557, .int p656558, .int p656559, .int p656560, .int p656561, .int p656562, .ref qo656563, .int p656564, .int p656565, .int p656566, .ref q656555, .ref q656556, .int p656567])) (heq656554 : F656552 q656554 = .inl (I .byte, 8192, .inl f656568)) (heq656555 : F656552 q656555 = .inl (I .int, n656570, .inl f656569)) (heq656556 : F656552 q656556 = .inl (I .int, n656572, .inl f656571)) (hneq656554q656555 : q656554 ≠ q656555) (hneq656554q656556 : q656554 ≠ q656556) (hneq656555q656556 : q656555 ≠ q656556) (bp656557 : gB p656557 0 8192) (bp656558 : gB p656558 0 8192) (bp656559 : gB p656559 0 6) (bp656560 : gB p656560 0 8192) (bp656562 : gB p656562 0 6) (bp656564 : gB p656564 (-1) 8192) (bp656565 : gB p656565 0 4) (bp656566 : gB p656566 0 1000000) (bp656567 : gB p656567 0 1000000) (bf656568 : gF f656568 (-128) 127) (x656573 : p656558.toInt ≤ p656557.toInt) (x656574 : tP I P656551 F656552 p656559 qo656563 q656556 q656555) (x656575 : vP p656559 p656561) (x656576 : (n656572 : Int) = (n656570 : Int)) (x656577 : p656567.toInt ≤ (n656572 : Int)) (x656578 : 16 ≤ (n656572 : Int)) (x656579 : (n656572 : Int) ≤ 2 * p656567.toInt + 16) (x656580 : p656567.toInt ≤ 16000) (x656581 : glP f656569) (x656582 : ((n656570 : Int) ≤ 16777216)) (x656583 : ((n656572 : Int) ≤ 16777216)) : CtA (gV D I) l yX14_goal cX14_goal 2 (some FieldType.int) 9 199 ((16 * (p656557.toInt - p656558.toInt)).toNat + 3) ((160 * (p656557.toInt - p656558.toInt)).toNat + 4 * n656572 + 7) [.ref q656553] (va_pl P656551 F656552) (pp_656584_Reader_goal D I P656551 F656552 q656553 q656554 q656555 q656556 p656557 p656558 p656559 p656560 p656561 p656562 qo656563 p656564 p656565 p656566 p656567 f656568 f656569 n656570 f656571 n656572) (xp_656584_Reader_goal D I P656551 F656552 q656553 q656554 q656555 q656556 p656557 p656558 p656559 p656560 p656561 p656562 qo656563 p656564 p656565 p656566 p656567 f656568 f656569 n656570 f656571 n656572) := by
  refine CtA_of hl0 (by decide) (Nat.le_of_ble_eq_true rfl) ?_
  have bp656561 := gB_any p656561
  refine G_aload_n 0 dr_cX14_goal_0 rfl ?_
  refine Gp_get 13 hmq656553 heq656553 dr_cX14_goal_1 (gk_X14 D I) (Nat.le_of_ble_eq_true rfl) wr_9_51 rfl ?_
  refine G_aload_n 0 dr_cX14_goal_4 rfl ?_
  refine Gp_get 12 hmq656553 heq656553 dr_cX14_goal_5 (gk_X14 D I) (Nat.le_of_ble_eq_true rfl) wr_9_50 rfl ?_
  refine Gp_alen (Int32.ofNat n656572) 0 hmq656556 heq656556 dr_cX14_goal_8 rfl rfl (G_nam fun z656585 hz656585 => ?_)
  have ez656585 : z656585.toInt = (n656572 : Nat) := gI_ofM hz656585 (by omega)
  have bz656585 : gB z656585 0 16777216 := ⟨by omega, by omega⟩
  refine G_icmp_ne 46 dr_cX14_goal_9 (by decide +kernel) (fun hc656586 => ?_) (fun hc656586 => ?_)
  · have r656587 : p656567.toInt ≠ z656585.toInt := gC_ne hc656586
    refine G_aload_n 0 dr_cX14_goal_46 rfl ?_
    refine Gp_get 11 hmq656553 heq656553 dr_cX14_goal_47 (gk_X14 D I) (Nat.le_of_ble_eq_true rfl) wr_9_49 rfl ?_
    refine G_aload_n 0 dr_cX14_goal_50 rfl ?_
    refine Gp_get 13 hmq656553 heq656553 dr_cX14_goal_51 (gk_X14 D I) (Nat.le_of_ble_eq_true rfl) wr_9_51 rfl ?_
    refine G_aload_n 0 dr_cX14_goal_54 rfl ?_
    refine Gp_get 4 hmq656553 heq656553 dr_cX14_goal_55 (gk_X14 D I) (Nat.le_of_ble_eq_true rfl) wr_9_40 rfl ?_
    refine Gp_iast 0 hmq656555 heq656555 dr_cX14_goal_58 rfl (gB_inr (by omega) (by omega)) (fun F656588 e656589 n656590 => ?_)
    obtain ⟨f656591, hf656591⟩ : ∃ z, z = upd f656569 p656567.toNatClampNeg p656560 := ⟨_, rfl⟩
    rw [← hf656591] at e656589
    have he656592 : F656588 q656553 = .inr (19, [.ref q656554, .int p656557, .int p656558, .int p656559, .int p656560, .int p656561, .int p656562, .ref qo656563, .int p656564, .int p656565, .int p656566, .ref q656555, .ref q656556, .int p656567]) := (n656590 q656553 (rn_oa heq656553 heq656555)).trans heq656553
    have he656593 : F656588 q656554 = .inl (I .byte, 8192, .inl f656568) := (n656590 q656554 hneq656554q656555).trans heq656554
    have he656594 : F656588 q656556 = .inl (I .int, n656572, .inl f656571) := (n656590 q656556 (Ne.symm hneq656555q656556)).trans heq656556
    have he656595 : F656588 q656555 = .inl (I .int, n656570, .inl f656591) := e656589
    have hfr656596 : rFr [q656555] P656551 F656552 F656588 := rFr_put (rFr_rf (W := []) (P := P656551) (F := F656552)) n656590
    have tp656597 : tP I P656551 F656588 p656559 qo656563 q656556 q656555 := tP_pa x656574 heq656555 (Or.inr rfl) n656590
    refine G_aload_n 0 dr_cX14_goal_59 rfl ?_
    refine G_iconst 3 dr_cX14_goal_60 (by decide +kernel) ?_
    refine Gw_callV (As := [.int 3]) (gV_ok D I) (cp_655812_Reader_want l hl0 D I P656551 F656588 q656553 q656554 3 p656557 p656558 p656559 p656560 p656561 p656562 qo656563 p656564 p656565 p656566 q656555 q656556 p656567 f656568 hmq656553 hmq656554 he656592 he656593 (gB_w (gBl (show Int32.toInt 3 = 3 by decide)) (by decide) (by decide)) bp656557 bp656558 bp656559 bp656560 bp656562 bp656564 bp656565 bp656566 bp656567 bf656568 (by omega) hmq656556 hmq656555 tp656597 x656575) dr_cX14_goal_61 ⟨wr_9_93, wr_1_32, wr_9_96, by decide, rfl, (Nat.le_of_ble_eq_true rfl), (Nat.le_of_ble_eq_true rfl)⟩ wr_9_95 wr_p_80 hmq656553 he656592 rfl (show 0 + ((16 * (p656557.toInt - p656558.toInt)).toNat + 1) ≤ ((16 * (p656557.toInt - p656558.toInt)).toNat + 3) by first | omega | decide) (show 0 + ((160 * (p656557.toInt - p656558.toInt)).toNat + 7) ≤ ((160 * (p656557.toInt - p656558.toInt)).toNat + 4 * n656572 + 7) by first | omega | decide) (Nat.le_of_ble_eq_true rfl) (fun r656601 w656602 dc656598 ds656599 hp656600 => ?_) (fun _ qx656614 _ dc656612 ds656613 hx => by obtain ⟨P656610, F656611, rfl, rfl, hsb656603, hfr656604, hq656605, hqn656606, hwr656607, hdc656608, hds656609⟩ := hx; exact GT_outA rfl (show 0 + dc656612 ≤ ((16 * (p656557.toInt - p656558.toInt)).toNat + 3) by omega) (show 0 + ds656613 ≤ ((160 * (p656557.toInt - p656558.toInt)).toNat + 4 * n656572 + 7) by omega) ⟨P656610, F656611, rfl, rfl, (rSub_tr (rSub_rf (P := P656551)) hsb656603), (rFr_v (show rFr [q656555] P656551 F656552 F656611 from rFr_call (rSub_rf (P := P656551)) hfr656596 hfr656604 (fun b hb hn => ⟨(nm_c (fun e => hn (e ▸ List.mem_cons_self)) nm_n), nm_n⟩)) (fun b hn => (nm_c (fun e => hn (e ▸ List.mem_cons_self)) nm_n))), hq656605, (fun z => hqn656606 ((rSub_rf (P := P656551)) _ z)), hwr656607, (by omega), (by omega)⟩)
    obtain ⟨P656627, F656628, o656615, o656616, o656617, o656618, q656619, rfl, rfl, hsb656629, hfr656630, he656631, he656632, hdc, hds, bo656615, bo656616, bo656617, x656620, x656621, x656622, x656623, x656624, x656625, x656626⟩ := hp656600
    have hm656633 : q656553 ∈ P656627 := hsb656629 q656553 hmq656553
    have hm656634 : q656554 ∈ P656627 := hsb656629 q656554 hmq656554
    have hm656635 : q656555 ∈ P656627 := hsb656629 q656555 hmq656555
    have hm656636 : q656556 ∈ P656627 := hsb656629 q656556 hmq656556
    have hsb656637 : rSub P656551 P656627 := rSub_tr (rSub_rf (P := P656551)) hsb656629
    have he656638 : F656628 q656555 = .inl (I .int, n656570, .inl f656591) := (hfr656630 q656555 hmq656555 (nm_c (rn_ao he656595 he656592) nm_n)).trans he656595
    have he656639 : F656628 q656556 = .inl (I .int, n656572, .inl f656571) := (hfr656630 q656556 hmq656556 (nm_c (rn_ao he656594 he656592) nm_n)).trans he656594
    have hfr656640 : rFr [q656555, q656553] P656551 F656552 F656628 := rFr_call (rSub_rf (P := P656551)) hfr656596 hfr656630 (fun b hb hn => ⟨(nm_c (fun e => hn (e ▸ List.mem_cons_self)) nm_n), (nm_c (fun e => hn (e ▸ (List.mem_cons_of_mem _ List.mem_cons_self))) nm_n)⟩)
    have bo656618 := gB_any o656618
    rw [show Int32.toInt 3 = 3 from by decide] at x656626
    change G _ _ _ _ _ _ _ (.int p656561 :: _) _ _ _
    refine G_widen (cs' := (16 * (o656615.toInt - p656558.toInt)).toNat) (sl' := (160 * (o656615.toInt - p656558.toInt)).toNat) (by omega) (by omega) ?_
    refine G_istore_n (L' := [(1, .int p656561), (0, .ref q656553)]) dr_cX14_goal_64 (Nat.le_of_ble_eq_true rfl) rfl ?_
    refine G_aload_n 1 dr_cX14_goal_65 rfl ?_
    refine Gp_get 12 hm656633 he656631 dr_cX14_goal_66 (gk_X14 D I) (Nat.le_of_ble_eq_true rfl) wr_9_50 rfl ?_
    refine G_aload_n 1 dr_cX14_goal_69 rfl ?_
    refine Gp_get 13 hm656633 he656631 dr_cX14_goal_70 (gk_X14 D I) (Nat.le_of_ble_eq_true rfl) wr_9_51 rfl ?_
    refine G_iload_n 0 dr_cX14_goal_73 rfl ?_
    refine Gp_iast 0 hm656636 he656639 dr_cX14_goal_74 rfl (gB_inr (by omega) (by omega)) (fun F656641 e656642 n656643 => ?_)
    obtain ⟨f656644, hf656644⟩ : ∃ z, z = upd f656571 p656567.toNatClampNeg p656561 := ⟨_, rfl⟩
    rw [← hf656644] at e656642
    have he656645 : F656641 q656555 = .inl (I .int, n656570, .inl f656591) := (n656643 q656555 hneq656555q656556).trans he656638
    have he656646 : F656641 q656553 = .inr (19, [.ref q656554, .int p656557, .int o656615, .int o656616, .int o656617, .int o656618, .int p656559, .ref q656619, .int p656564, .int p656565, .int p656566, .ref q656555, .ref q656556, .int p656567]) := (n656643 q656553 (rn_oa he656631 he656639)).trans he656631
    have he656647 : F656641 q656554 = .inl (I .byte, 8192, .inl f656568) := (n656643 q656554 hneq656554q656556).trans he656632
    have he656648 : F656641 q656556 = .inl (I .int, n656572, .inl f656644) := e656642
    have hfr656649 : rFr [q656556, q656555, q656553] P656551 F656552 F656641 := rFr_put hfr656640 n656643
    have tp656650 : tP I P656627 F656641 o656616 q656619 q656556 q656555 := tP_pa x656623 he656639 (Or.inl rfl) n656643
    refine G_aload_n 1 dr_cX14_goal_75 rfl ?_
    refine G_dup dr_cX14_goal_76 rfl ?_
    refine Gp_get 13 hm656633 he656646 dr_cX14_goal_77 (gk_X14 D I) (Nat.le_of_ble_eq_true rfl) wr_9_51 rfl ?_
    refine G_iconst 1 dr_cX14_goal_80 (by decide +kernel) ?_
    refine G_iadd dr_cX14_goal_81 (G_nam fun z656651 hz656651 => ?_)
    have ez656651 : z656651.toInt = p656567.toInt + 1 := by rw [gI_add hz656651 bp656567 (gBl (show Int32.toInt 1 = 1 by decide)) (by decide) (by decide), show Int32.toInt 1 = 1 from by decide]
    have bz656651 : gB z656651 1 1000001 := gB_add (gI_add hz656651 bp656567 (gBl (show Int32.toInt 1 = 1 by decide)) (by decide) (by decide)) bp656567 (gBl (show Int32.toInt 1 = 1 by decide)) (by decide) (by decide)
    refine Gp_put 13 hm656633 he656646 dr_cX14_goal_82 (gk_X14 D I) (Nat.le_of_ble_eq_true rfl) wr_9_51 rfl rfl rfl (Nat.le_of_ble_eq_true rfl) (fun F656652 e656653 n656654 => ?_)
    have he656655 : F656652 q656555 = .inl (I .int, n656570, .inl f656591) := (n656654 q656555 (rn_ao he656645 he656646)).trans he656645
    have he656656 : F656652 q656556 = .inl (I .int, n656572, .inl f656644) := (n656654 q656556 (rn_ao he656648 he656646)).trans he656648
    have he656657 : F656652 q656554 = .inl (I .byte, 8192, .inl f656568) := (n656654 q656554 (rn_ao he656647 he656646)).trans he656647
    have he656658 : F656652 q656553 = .inr (19, [.ref q656554, .int p656557, .int o656615, .int o656616, .int o656617, .int o656618, .int p656559, .ref q656619, .int p656564, .int p656565, .int p656566, .ref q656555, .ref q656556, .int z656651]) := e656653
    have hfr656659 : rFr [q656556, q656555, q656553] P656551 F656552 F656652 := rFr_put' (List.mem_cons_of_mem _ (List.mem_cons_of_mem _ List.mem_cons_self)) hfr656649 n656654
    have tp656660 : tP I P656627 F656652 o656616 q656619 q656556 q656555 := tP_put tp656650 he656646 (by decide) n656654
    refine G_iload_n 0 dr_cX14_goal_85 rfl ?_
    exact G_iretA dr_cX14_goal_86 rfl (show (16 * (o656615.toInt - p656558.toInt)).toNat ≤ ((16 * (p656557.toInt - p656558.toInt)).toNat + 3) by omega) (show (160 * (o656615.toInt - p656558.toInt)).toNat ≤ ((160 * (p656557.toInt - p656558.toInt)).toNat + 4 * n656572 + 7) by omega) ⟨P656627, F656652, o656615, o656616, o656617, o656618, q656619, z656651, q656555, n656570, f656591, q656556, n656572, f656644, rfl, rfl, hsb656637, hfr656659, he656655, he656656, he656658, he656657, hm656635, (Or.inl rfl), hm656636, (Or.inl rfl), (by omega), (by omega), bo656615, bo656616, bo656617, ⟨by omega, by omega⟩, (by omega), x656621, (by omega), tp656660, x656624, x656625, (by omega), (by omega), (Ne.symm hneq656555q656556), (glC_u hf656644 glC_rf (by omega)), (glL_u hf656644), (glP_u hf656591 x656581 (by first | assumption | exact ⟨by omega, by omega⟩)), (by omega), (by omega), (by omega), (by omega), (by omega), (by omega)⟩
  · have r656661 : p656567.toInt = z656585.toInt := gC_eq hc656586
    have bz656585' : gB z656585 0 1000000 := ⟨by omega, by omega⟩
    refine G_aload_n 0 dr_cX14_goal_12 rfl ?_
    refine G_aload_n 0 dr_cX14_goal_13 rfl ?_
    refine Gp_get 12 hmq656553 heq656553 dr_cX14_goal_14 (gk_X14 D I) (Nat.le_of_ble_eq_true rfl) wr_9_50 rfl ?_
    refine G_iconst 2 dr_cX14_goal_17 (by decide +kernel) ?_
    refine G_aload_n 0 dr_cX14_goal_18 rfl ?_
    refine Gp_get 13 hmq656553 heq656553 dr_cX14_goal_19 (gk_X14 D I) (Nat.le_of_ble_eq_true rfl) wr_9_51 rfl ?_
    refine G_imul dr_cX14_goal_22 (G_nam fun z656662 hz656662 => ?_)
    have ez656662 : z656662.toInt = 2 * p656567.toInt := by rw [gI_mul hz656662 (gBl (show Int32.toInt 2 = 2 by decide)) bp656567 (by decide) (by decide) (by decide), show Int32.toInt 2 = 2 from by decide]
    have bz656662 : gB z656662 0 2000000 := gB_mul hz656662 (gBl (show Int32.toInt 2 = 2 by decide)) bp656567 (by decide) (by decide) (by decide) (by decide)
    refine Gw_callS (As := [.ref q656556, .int z656662]) (gV_ok D I) (cp_656671_Arrays_copyOf l hl0 D I P656551 F656552 q656556 z656662 f656571 n656572 hmq656556 heq656556 ⟨by omega, by omega⟩ (by omega) (by omega)) dr_cX14_goal_23 ⟨wr_10_114, wr_1_30, wr_10_116, by decide, rfl, (Nat.le_of_ble_eq_true rfl), (Nat.le_of_ble_eq_true rfl)⟩ wr_10_115 (show 0 + 1 ≤ ((16 * (p656557.toInt - p656558.toInt)).toNat + 3) by first | omega | decide) (show 0 + z656662.toInt.toNat ≤ ((160 * (p656557.toInt - p656558.toInt)).toNat + 4 * n656572 + 7) by first | omega | decide) (Nat.le_of_ble_eq_true rfl) (fun r656706 w656707 dc656703 ds656704 hp656705 => ?_) (fun _ _ _ _ _ z => z.elim)
    obtain ⟨P656713, F656714, q656708, f656709, rfl, rfl, hsb656715, hfr656716, he656717, he656718, hm656719, hq656720, hdc, hds, x656710, x656711, x656712⟩ := hp656705
    have hm656721 : q656553 ∈ P656713 := hsb656715 q656553 hmq656553
    have hm656722 : q656554 ∈ P656713 := hsb656715 q656554 hmq656554
    have hm656723 : q656555 ∈ P656713 := hsb656715 q656555 hmq656555
    have hm656724 : q656556 ∈ P656713 := hsb656715 q656556 hmq656556
    have hq656725 : q656708 ∉ P656551 := fun z => hq656720 ((rSub_rf (P := P656551)) q656708 z)
    have hsb656726 : rSub P656551 P656713 := rSub_tr (rSub_rf (P := P656551)) hsb656715
    have he656727 : F656714 q656553 = .inr (19, [.ref q656554, .int p656557, .int p656558, .int p656559, .int p656560, .int p656561, .int p656562, .ref qo656563, .int p656564, .int p656565, .int p656566, .ref q656555, .ref q656556, .int p656567]) := (hfr656716 q656553 hmq656553 nm_n).trans heq656553
    have he656728 : F656714 q656554 = .inl (I .byte, 8192, .inl f656568) := (hfr656716 q656554 hmq656554 nm_n).trans heq656554
    have he656729 : F656714 q656555 = .inl (I .int, n656570, .inl f656569) := (hfr656716 q656555 hmq656555 nm_n).trans heq656555
    have hfr656730 : rFr [] P656551 F656552 F656714 := rFr_call (rSub_rf (P := P656551)) (rFr_rf (W := []) (P := P656551) (F := F656552)) hfr656716 (fun b hb hn => ⟨nm_n, nm_n⟩)
    have tp656731 : tP I P656713 F656714 p656559 qo656563 q656556 q656555 := tP_new x656574 hsb656715 (fun b hb => hfr656716 b hb (fun z => by cases z)) (Or.inl rfl) (Or.inl rfl)
    have tp656732 : tP I P656713 F656714 p656559 qo656563 q656708 q656555 := tP_new x656574 hsb656715 (fun b hb => hfr656716 b hb (fun z => by cases z)) (Or.inr hq656720) (Or.inl rfl)
    have tp656733 : tP I P656713 F656714 p656559 qo656563 q656556 q656708 := tP_new x656574 hsb656715 (fun b hb => hfr656716 b hb (fun z => by cases z)) (Or.inl rfl) (Or.inr hq656720)
    change G _ _ _ _ _ _ _ (.ref q656708 :: _) _ _ _
    refine G_widen (cs' := 1) (sl' := z656662.toInt.toNat) (by omega) (by omega) ?_
    refine Gp_put 12 hm656721 he656727 dr_cX14_goal_26 (gk_X14 D I) (Nat.le_of_ble_eq_true rfl) wr_9_50 rfl rfl rfl (Nat.le_of_ble_eq_true rfl) (fun F656734 e656735 n656736 => ?_)
    have he656737 : F656734 q656554 = .inl (I .byte, 8192, .inl f656568) := (n656736 q656554 (rn_ao he656728 he656727)).trans he656728
    have he656738 : F656734 q656555 = .inl (I .int, n656570, .inl f656569) := (n656736 q656555 (rn_ao he656729 he656727)).trans he656729
    have he656739 : F656734 q656556 = .inl (I .int, n656572, .inl f656571) := (n656736 q656556 (rn_ao he656717 he656727)).trans he656717
    have he656740 : F656734 q656708 = .inl (I .int, z656662.toInt.toNat, .inl f656709) := (n656736 q656708 (fun h => hq656725 (h ▸ hmq656553))).trans he656718
    have he656741 : F656734 q656553 = .inr (19, [.ref q656554, .int p656557, .int p656558, .int p656559, .int p656560, .int p656561, .int p656562, .ref qo656563, .int p656564, .int p656565, .int p656566, .ref q656555, .ref q656708, .int p656567]) := e656735
    have hfr656742 : rFr [q656553] P656551 F656552 F656734 := rFr_put hfr656730 n656736
    have tp656743 : tP I P656713 F656734 p656559 qo656563 q656556 q656555 := tP_put tp656731 he656727 (by decide) n656736
    have tp656744 : tP I P656713 F656734 p656559 qo656563 q656708 q656555 := tP_put tp656732 he656727 (by decide) n656736
    have tp656745 : tP I P656713 F656734 p656559 qo656563 q656556 q656708 := tP_put tp656733 he656727 (by decide) n656736
    refine G_aload_n 0 dr_cX14_goal_29 rfl ?_
    refine G_aload_n 0 dr_cX14_goal_30 rfl ?_
    refine Gp_get 11 hm656721 he656741 dr_cX14_goal_31 (gk_X14 D I) (Nat.le_of_ble_eq_true rfl) wr_9_49 rfl ?_
    refine G_iconst 2 dr_cX14_goal_34 (by decide +kernel) ?_
    refine G_aload_n 0 dr_cX14_goal_35 rfl ?_
    refine Gp_get 13 hm656721 he656741 dr_cX14_goal_36 (gk_X14 D I) (Nat.le_of_ble_eq_true rfl) wr_9_51 rfl ?_
    refine G_imul dr_cX14_goal_39 (G_nam fun z656746 hz656746 => ?_)
    have ez656746 : z656746.toInt = 2 * p656567.toInt := by rw [gI_mul hz656746 (gBl (show Int32.toInt 2 = 2 by decide)) bp656567 (by decide) (by decide) (by decide), show Int32.toInt 2 = 2 from by decide]
    have bz656746 : gB z656746 0 2000000 := gB_mul hz656746 (gBl (show Int32.toInt 2 = 2 by decide)) bp656567 (by decide) (by decide) (by decide) (by decide)
    refine Gw_callS (As := [.ref q656555, .int z656746]) (gV_ok D I) (cp_656671_Arrays_copyOf l hl0 D I P656713 F656734 q656555 z656746 f656569 n656570 hm656723 he656738 ⟨by omega, by omega⟩ (by omega) (by omega)) dr_cX14_goal_40 ⟨wr_10_114, wr_1_30, wr_10_116, by decide, rfl, (Nat.le_of_ble_eq_true rfl), (Nat.le_of_ble_eq_true rfl)⟩ wr_10_115 (show 1 + 1 ≤ ((16 * (p656557.toInt - p656558.toInt)).toNat + 3) by first | omega | decide) (show z656662.toInt.toNat + z656746.toInt.toNat ≤ ((160 * (p656557.toInt - p656558.toInt)).toNat + 4 * n656572 + 7) by first | omega | decide) (Nat.le_of_ble_eq_true rfl) (fun r656750 w656751 dc656747 ds656748 hp656749 => ?_) (fun _ _ _ _ _ z => z.elim)
    obtain ⟨P656757, F656758, q656752, f656753, rfl, rfl, hsb656759, hfr656760, he656761, he656762, hm656763, hq656764, hdc, hds, x656754, x656755, x656756⟩ := hp656749
    have hm656765 : q656553 ∈ P656757 := hsb656759 q656553 hm656721
    have hm656766 : q656554 ∈ P656757 := hsb656759 q656554 hm656722
    have hm656767 : q656555 ∈ P656757 := hsb656759 q656555 hm656723
    have hm656768 : q656556 ∈ P656757 := hsb656759 q656556 hm656724
    have hm656769 : q656708 ∈ P656757 := hsb656759 q656708 hm656719
    have hq656770 : q656752 ∉ P656551 := fun z => hq656764 (hsb656726 q656752 z)
    have hsb656771 : rSub P656551 P656757 := rSub_tr hsb656726 hsb656759
    have he656772 : F656758 q656553 = .inr (19, [.ref q656554, .int p656557, .int p656558, .int p656559, .int p656560, .int p656561, .int p656562, .ref qo656563, .int p656564, .int p656565, .int p656566, .ref q656555, .ref q656708, .int p656567]) := (hfr656760 q656553 hm656721 nm_n).trans he656741
    have he656773 : F656758 q656554 = .inl (I .byte, 8192, .inl f656568) := (hfr656760 q656554 hm656722 nm_n).trans he656737
    have he656774 : F656758 q656556 = .inl (I .int, n656572, .inl f656571) := (hfr656760 q656556 hm656724 nm_n).trans he656739
    have he656775 : F656758 q656708 = .inl (I .int, z656662.toInt.toNat, .inl f656709) := (hfr656760 q656708 hm656719 nm_n).trans he656740
    have hfr656776 : rFr [q656553] P656551 F656552 F656758 := rFr_call hsb656726 hfr656742 hfr656760 (fun b hb hn => ⟨(nm_c (fun e => hn (e ▸ List.mem_cons_self)) nm_n), nm_n⟩)
    have tp656777 : tP I P656757 F656758 p656559 qo656563 q656556 q656555 := tP_new tp656743 hsb656759 (fun b hb => hfr656760 b hb (fun z => by cases z)) (Or.inl rfl) (Or.inl rfl)
    have tp656778 : tP I P656757 F656758 p656559 qo656563 q656752 q656555 := tP_new tp656743 hsb656759 (fun b hb => hfr656760 b hb (fun z => by cases z)) (Or.inr hq656764) (Or.inl rfl)
    have tp656779 : tP I P656757 F656758 p656559 qo656563 q656556 q656752 := tP_new tp656743 hsb656759 (fun b hb => hfr656760 b hb (fun z => by cases z)) (Or.inl rfl) (Or.inr hq656764)
    have tp656780 : tP I P656757 F656758 p656559 qo656563 q656708 q656555 := tP_new tp656744 hsb656759 (fun b hb => hfr656760 b hb (fun z => by cases z)) (Or.inl rfl) (Or.inl rfl)
    have tp656781 : tP I P656757 F656758 p656559 qo656563 q656752 q656555 := tP_new tp656744 hsb656759 (fun b hb => hfr656760 b hb (fun z => by cases z)) (Or.inr hq656764) (Or.inl rfl)
    have tp656782 : tP I P656757 F656758 p656559 qo656563 q656708 q656752 := tP_new tp656744 hsb656759 (fun b hb => hfr656760 b hb (fun z => by cases z)) (Or.inl rfl) (Or.inr hq656764)
    have tp656783 : tP I P656757 F656758 p656559 qo656563 q656556 q656708 := tP_new tp656745 hsb656759 (fun b hb => hfr656760 b hb (fun z => by cases z)) (Or.inl rfl) (Or.inl rfl)
    have tp656784 : tP I P656757 F656758 p656559 qo656563 q656752 q656708 := tP_new tp656745 hsb656759 (fun b hb => hfr656760 b hb (fun z => by cases z)) (Or.inr hq656764) (Or.inl rfl)
    have tp656785 : tP I P656757 F656758 p656559 qo656563 q656556 q656752 := tP_new tp656745 hsb656759 (fun b hb => hfr656760 b hb (fun z => by cases z)) (Or.inl rfl) (Or.inr hq656764)
    have hne656786 : q656708 ≠ q656752 := fun h => hq656764 (h ▸ hm656719)
    change G _ _ _ _ _ _ _ (.ref q656752 :: _) _ _ _
    refine G_widen (cs' := 2) (sl' := z656662.toInt.toNat + z656746.toInt.toNat) (by omega) (by omega) ?_
    refine Gp_put 11 hm656765 he656772 dr_cX14_goal_43 (gk_X14 D I) (Nat.le_of_ble_eq_true rfl) wr_9_49 rfl rfl rfl (Nat.le_of_ble_eq_true rfl) (fun F656787 e656788 n656789 => ?_)
    have he656790 : F656787 q656554 = .inl (I .byte, 8192, .inl f656568) := (n656789 q656554 (rn_ao he656773 he656772)).trans he656773
    have he656791 : F656787 q656556 = .inl (I .int, n656572, .inl f656571) := (n656789 q656556 (rn_ao he656774 he656772)).trans he656774
    have he656792 : F656787 q656708 = .inl (I .int, z656662.toInt.toNat, .inl f656709) := (n656789 q656708 (fun h => hq656725 (h ▸ hmq656553))).trans he656775
    have he656793 : F656787 q656555 = .inl (I .int, n656570, .inl f656569) := (n656789 q656555 (rn_ao he656761 he656772)).trans he656761
    have he656794 : F656787 q656752 = .inl (I .int, z656746.toInt.toNat, .inl f656753) := (n656789 q656752 (fun h => hq656770 (h ▸ hmq656553))).trans he656762
    have he656795 : F656787 q656553 = .inr (19, [.ref q656554, .int p656557, .int p656558, .int p656559, .int p656560, .int p656561, .int p656562, .ref qo656563, .int p656564, .int p656565, .int p656566, .ref q656752, .ref q656708, .int p656567]) := e656788
    have hfr656796 : rFr [q656553] P656551 F656552 F656787 := rFr_put' List.mem_cons_self hfr656776 n656789
    have tp656797 : tP I P656757 F656787 p656559 qo656563 q656556 q656555 := tP_put tp656777 he656772 (by decide) n656789
    have tp656798 : tP I P656757 F656787 p656559 qo656563 q656752 q656555 := tP_put tp656778 he656772 (by decide) n656789
    have tp656799 : tP I P656757 F656787 p656559 qo656563 q656556 q656752 := tP_put tp656779 he656772 (by decide) n656789
    have tp656800 : tP I P656757 F656787 p656559 qo656563 q656708 q656555 := tP_put tp656780 he656772 (by decide) n656789
    have tp656801 : tP I P656757 F656787 p656559 qo656563 q656752 q656555 := tP_put tp656781 he656772 (by decide) n656789
    have tp656802 : tP I P656757 F656787 p656559 qo656563 q656708 q656752 := tP_put tp656782 he656772 (by decide) n656789
    have tp656803 : tP I P656757 F656787 p656559 qo656563 q656556 q656708 := tP_put tp656783 he656772 (by decide) n656789
    have tp656804 : tP I P656757 F656787 p656559 qo656563 q656752 q656708 := tP_put tp656784 he656772 (by decide) n656789
    have tp656805 : tP I P656757 F656787 p656559 qo656563 q656556 q656752 := tP_put tp656785 he656772 (by decide) n656789
    refine G_aload_n 0 dr_cX14_goal_46 rfl ?_
    refine Gp_get 11 hm656765 he656795 dr_cX14_goal_47 (gk_X14 D I) (Nat.le_of_ble_eq_true rfl) wr_9_49 rfl ?_
    refine G_aload_n 0 dr_cX14_goal_50 rfl ?_
    refine Gp_get 13 hm656765 he656795 dr_cX14_goal_51 (gk_X14 D I) (Nat.le_of_ble_eq_true rfl) wr_9_51 rfl ?_
    refine G_aload_n 0 dr_cX14_goal_54 rfl ?_
    refine Gp_get 4 hm656765 he656795 dr_cX14_goal_55 (gk_X14 D I) (Nat.le_of_ble_eq_true rfl) wr_9_40 rfl ?_
    refine Gp_iast 0 hm656763 he656794 dr_cX14_goal_58 rfl (gB_inr (by omega) (by omega)) (fun F656806 e656807 n656808 => ?_)
    obtain ⟨f656809, hf656809⟩ : ∃ z, z = upd f656753 p656567.toNatClampNeg p656560 := ⟨_, rfl⟩
    rw [← hf656809] at e656807
    have he656810 : F656806 q656553 = .inr (19, [.ref q656554, .int p656557, .int p656558, .int p656559, .int p656560, .int p656561, .int p656562, .ref qo656563, .int p656564, .int p656565, .int p656566, .ref q656752, .ref q656708, .int p656567]) := (n656808 q656553 (fun h => hq656770 (h ▸ hmq656553))).trans he656795
    have he656811 : F656806 q656554 = .inl (I .byte, 8192, .inl f656568) := (n656808 q656554 (fun h => hq656770 (h ▸ hmq656554))).trans he656790
    have he656812 : F656806 q656556 = .inl (I .int, n656572, .inl f656571) := (n656808 q656556 (fun h => hq656770 (h ▸ hmq656556))).trans he656791
    have he656813 : F656806 q656708 = .inl (I .int, z656662.toInt.toNat, .inl f656709) := (n656808 q656708 hne656786).trans he656792
    have he656814 : F656806 q656555 = .inl (I .int, n656570, .inl f656569) := (n656808 q656555 (fun h => hq656770 (h ▸ hmq656555))).trans he656793
    have he656815 : F656806 q656752 = .inl (I .int, z656746.toInt.toNat, .inl f656809) := e656807
    have hfr656816 : rFr [q656553] P656551 F656552 F656806 := rFr_newp hq656770 hfr656796 n656808
    have tp656818 : tP I P656757 F656806 p656559 qo656563 q656752 q656555 := tP_pa tp656798 he656794 (Or.inl rfl) n656808
    have tp656819 : tP I P656757 F656806 p656559 qo656563 q656556 q656752 := tP_pa tp656799 he656794 (Or.inr rfl) n656808
    have tp656821 : tP I P656757 F656806 p656559 qo656563 q656752 q656555 := tP_pa tp656801 he656794 (Or.inl rfl) n656808
    have tp656822 : tP I P656757 F656806 p656559 qo656563 q656708 q656752 := tP_pa tp656802 he656794 (Or.inr rfl) n656808
    have tp656824 : tP I P656757 F656806 p656559 qo656563 q656752 q656708 := tP_pa tp656804 he656794 (Or.inl rfl) n656808
    have tp656825 : tP I P656757 F656806 p656559 qo656563 q656556 q656752 := tP_pa tp656805 he656794 (Or.inr rfl) n656808
    refine G_aload_n 0 dr_cX14_goal_59 rfl ?_
    refine G_iconst 3 dr_cX14_goal_60 (by decide +kernel) ?_
    refine Gw_callV (As := [.int 3]) (gV_ok D I) (cp_655812_Reader_want l hl0 D I P656757 F656806 q656553 q656554 3 p656557 p656558 p656559 p656560 p656561 p656562 qo656563 p656564 p656565 p656566 q656752 q656708 p656567 f656568 hm656765 hm656766 he656810 he656811 (gB_w (gBl (show Int32.toInt 3 = 3 by decide)) (by decide) (by decide)) bp656557 bp656558 bp656559 bp656560 bp656562 bp656564 bp656565 bp656566 bp656567 bf656568 (by omega) hm656769 hm656763 tp656822 x656575) dr_cX14_goal_61 ⟨wr_9_93, wr_1_32, wr_9_96, by decide, rfl, (Nat.le_of_ble_eq_true rfl), (Nat.le_of_ble_eq_true rfl)⟩ wr_9_95 wr_p_80 hm656765 he656810 rfl (show 2 + ((16 * (p656557.toInt - p656558.toInt)).toNat + 1) ≤ ((16 * (p656557.toInt - p656558.toInt)).toNat + 3) by first | omega | decide) (show z656662.toInt.toNat + z656746.toInt.toNat + ((160 * (p656557.toInt - p656558.toInt)).toNat + 7) ≤ ((160 * (p656557.toInt - p656558.toInt)).toNat + 4 * n656572 + 7) by first | omega | decide) (Nat.le_of_ble_eq_true rfl) (fun r656829 w656830 dc656826 ds656827 hp656828 => ?_) (fun _ qx656842 _ dc656840 ds656841 hx => by obtain ⟨P656838, F656839, rfl, rfl, hsb656831, hfr656832, hq656833, hqn656834, hwr656835, hdc656836, hds656837⟩ := hx; exact GT_outA rfl (show 2 + dc656840 ≤ ((16 * (p656557.toInt - p656558.toInt)).toNat + 3) by omega) (show z656662.toInt.toNat + z656746.toInt.toNat + ds656841 ≤ ((160 * (p656557.toInt - p656558.toInt)).toNat + 4 * n656572 + 7) by omega) ⟨P656838, F656839, rfl, rfl, (rSub_tr hsb656771 hsb656831), (rFr_v (show rFr [q656553] P656551 F656552 F656839 from rFr_call hsb656771 hfr656816 hfr656832 (fun b hb hn => ⟨(nm_c (fun e => hn (e ▸ List.mem_cons_self)) nm_n), nm_n⟩)) (fun b hn => (nm_c (fun e => hn (e ▸ (List.mem_cons_of_mem _ List.mem_cons_self))) nm_n))), hq656833, (fun z => hqn656834 (hsb656771 _ z)), hwr656835, (by omega), (by omega)⟩)
    obtain ⟨P656855, F656856, o656843, o656844, o656845, o656846, q656847, rfl, rfl, hsb656857, hfr656858, he656859, he656860, hdc, hds, bo656843, bo656844, bo656845, x656848, x656849, x656850, x656851, x656852, x656853, x656854⟩ := hp656828
    have hm656861 : q656553 ∈ P656855 := hsb656857 q656553 hm656765
    have hm656862 : q656554 ∈ P656855 := hsb656857 q656554 hm656766
    have hm656863 : q656555 ∈ P656855 := hsb656857 q656555 hm656767
    have hm656864 : q656556 ∈ P656855 := hsb656857 q656556 hm656768
    have hm656865 : q656708 ∈ P656855 := hsb656857 q656708 hm656769
    have hm656866 : q656752 ∈ P656855 := hsb656857 q656752 hm656763
    have hsb656867 : rSub P656551 P656855 := rSub_tr hsb656771 hsb656857
    have he656868 : F656856 q656556 = .inl (I .int, n656572, .inl f656571) := (hfr656858 q656556 hm656768 (nm_c (rn_ao he656812 he656810) nm_n)).trans he656812
    have he656869 : F656856 q656708 = .inl (I .int, z656662.toInt.toNat, .inl f656709) := (hfr656858 q656708 hm656769 (nm_c (fun h => hq656725 (h ▸ hmq656553)) nm_n)).trans he656813
    have he656870 : F656856 q656555 = .inl (I .int, n656570, .inl f656569) := (hfr656858 q656555 hm656767 (nm_c (rn_ao he656814 he656810) nm_n)).trans he656814
    have he656871 : F656856 q656752 = .inl (I .int, z656746.toInt.toNat, .inl f656809) := (hfr656858 q656752 hm656763 (nm_c (fun h => hq656770 (h ▸ hmq656553)) nm_n)).trans he656815
    have hfr656872 : rFr [q656553] P656551 F656552 F656856 := rFr_call hsb656771 hfr656816 hfr656858 (fun b hb hn => ⟨(nm_c (fun e => hn (e ▸ List.mem_cons_self)) nm_n), (nm_c (fun e => hn (e ▸ List.mem_cons_self)) nm_n)⟩)
    have bo656846 := gB_any o656846
    rw [show Int32.toInt 3 = 3 from by decide] at x656854
    change G _ _ _ _ _ _ _ (.int p656561 :: _) _ _ _
    refine G_widen (cs' := 2 + ((16 * (o656843.toInt - p656558.toInt)).toNat)) (sl' := z656662.toInt.toNat + z656746.toInt.toNat + ((160 * (o656843.toInt - p656558.toInt)).toNat)) (by omega) (by omega) ?_
    refine G_istore_n (L' := [(1, .int p656561), (0, .ref q656553)]) dr_cX14_goal_64 (Nat.le_of_ble_eq_true rfl) rfl ?_
    refine G_aload_n 1 dr_cX14_goal_65 rfl ?_
    refine Gp_get 12 hm656861 he656859 dr_cX14_goal_66 (gk_X14 D I) (Nat.le_of_ble_eq_true rfl) wr_9_50 rfl ?_
    refine G_aload_n 1 dr_cX14_goal_69 rfl ?_
    refine Gp_get 13 hm656861 he656859 dr_cX14_goal_70 (gk_X14 D I) (Nat.le_of_ble_eq_true rfl) wr_9_51 rfl ?_
    refine G_iload_n 0 dr_cX14_goal_73 rfl ?_
    refine Gp_iast 0 hm656865 he656869 dr_cX14_goal_74 rfl (gB_inr (by omega) (by omega)) (fun F656873 e656874 n656875 => ?_)
    obtain ⟨f656876, hf656876⟩ : ∃ z, z = upd f656709 p656567.toNatClampNeg p656561 := ⟨_, rfl⟩
    rw [← hf656876] at e656874
    have he656877 : F656873 q656556 = .inl (I .int, n656572, .inl f656571) := (n656875 q656556 (fun h => hq656725 (h ▸ hmq656556))).trans he656868
    have he656878 : F656873 q656555 = .inl (I .int, n656570, .inl f656569) := (n656875 q656555 (fun h => hq656725 (h ▸ hmq656555))).trans he656870
    have he656879 : F656873 q656752 = .inl (I .int, z656746.toInt.toNat, .inl f656809) := (n656875 q656752 (Ne.symm hne656786)).trans he656871
    have he656880 : F656873 q656553 = .inr (19, [.ref q656554, .int p656557, .int o656843, .int o656844, .int o656845, .int o656846, .int p656559, .ref q656847, .int p656564, .int p656565, .int p656566, .ref q656752, .ref q656708, .int p656567]) := (n656875 q656553 (fun h => hq656725 (h ▸ hmq656553))).trans he656859
    have he656881 : F656873 q656554 = .inl (I .byte, 8192, .inl f656568) := (n656875 q656554 (fun h => hq656725 (h ▸ hmq656554))).trans he656860
    have he656882 : F656873 q656708 = .inl (I .int, z656662.toInt.toNat, .inl f656876) := e656874
    have hfr656883 : rFr [q656553] P656551 F656552 F656873 := rFr_newp hq656725 hfr656872 n656875
    have tp656884 : tP I P656855 F656873 o656844 q656847 q656708 q656752 := tP_pa x656851 he656869 (Or.inl rfl) n656875
    refine G_aload_n 1 dr_cX14_goal_75 rfl ?_
    refine G_dup dr_cX14_goal_76 rfl ?_
    refine Gp_get 13 hm656861 he656880 dr_cX14_goal_77 (gk_X14 D I) (Nat.le_of_ble_eq_true rfl) wr_9_51 rfl ?_
    refine G_iconst 1 dr_cX14_goal_80 (by decide +kernel) ?_
    refine G_iadd dr_cX14_goal_81 (G_nam fun z656885 hz656885 => ?_)
    have ez656885 : z656885.toInt = p656567.toInt + 1 := by rw [gI_add hz656885 bp656567 (gBl (show Int32.toInt 1 = 1 by decide)) (by decide) (by decide), show Int32.toInt 1 = 1 from by decide]
    have bz656885 : gB z656885 1 1000001 := gB_add (gI_add hz656885 bp656567 (gBl (show Int32.toInt 1 = 1 by decide)) (by decide) (by decide)) bp656567 (gBl (show Int32.toInt 1 = 1 by decide)) (by decide) (by decide)
    refine Gp_put 13 hm656861 he656880 dr_cX14_goal_82 (gk_X14 D I) (Nat.le_of_ble_eq_true rfl) wr_9_51 rfl rfl rfl (Nat.le_of_ble_eq_true rfl) (fun F656886 e656887 n656888 => ?_)
    have he656889 : F656886 q656556 = .inl (I .int, n656572, .inl f656571) := (n656888 q656556 (rn_ao he656877 he656880)).trans he656877
    have he656890 : F656886 q656708 = .inl (I .int, z656662.toInt.toNat, .inl f656876) := (n656888 q656708 (fun h => hq656725 (h ▸ hmq656553))).trans he656882
    have he656891 : F656886 q656555 = .inl (I .int, n656570, .inl f656569) := (n656888 q656555 (rn_ao he656878 he656880)).trans he656878
    have he656892 : F656886 q656752 = .inl (I .int, z656746.toInt.toNat, .inl f656809) := (n656888 q656752 (fun h => hq656770 (h ▸ hmq656553))).trans he656879
    have he656893 : F656886 q656554 = .inl (I .byte, 8192, .inl f656568) := (n656888 q656554 (rn_ao he656881 he656880)).trans he656881
    have he656894 : F656886 q656553 = .inr (19, [.ref q656554, .int p656557, .int o656843, .int o656844, .int o656845, .int o656846, .int p656559, .ref q656847, .int p656564, .int p656565, .int p656566, .ref q656752, .ref q656708, .int z656885]) := e656887
    have hfr656895 : rFr [q656553] P656551 F656552 F656886 := rFr_put' List.mem_cons_self hfr656883 n656888
    have tp656896 : tP I P656855 F656886 o656844 q656847 q656708 q656752 := tP_put tp656884 he656880 (by decide) n656888
    refine G_iload_n 0 dr_cX14_goal_85 rfl ?_
    exact G_iretA dr_cX14_goal_86 rfl (show 2 + ((16 * (o656843.toInt - p656558.toInt)).toNat) ≤ ((16 * (p656557.toInt - p656558.toInt)).toNat + 3) by omega) (show z656662.toInt.toNat + z656746.toInt.toNat + ((160 * (o656843.toInt - p656558.toInt)).toNat) ≤ ((160 * (p656557.toInt - p656558.toInt)).toNat + 4 * n656572 + 7) by omega) ⟨P656855, F656886, o656843, o656844, o656845, o656846, q656847, z656885, q656752, z656746.toInt.toNat, f656809, q656708, z656662.toInt.toNat, f656876, rfl, rfl, hsb656867, (rFr_v hfr656895 (fun b hn => (nm_c (fun e => hn (e ▸ (List.mem_cons_of_mem _ (List.mem_cons_of_mem _ List.mem_cons_self)))) nm_n))), he656892, he656890, he656894, he656893, hm656866, (Or.inr hq656770), hm656865, (Or.inr hq656725), (by omega), (by omega), bo656843, bo656844, bo656845, ⟨by omega, by omega⟩, (by omega), x656849, (by omega), tp656896, x656852, x656853, (by omega), (by omega), hne656786, (glC_u hf656876 (glC_tr glC_rf x656711 (show p656567.toInt ≤ p656567.toInt from Int.le_refl _) (by omega)) (by omega)), (glL_u hf656876), (glP_u hf656809 (glP_b x656756 x656581) (by first | assumption | exact ⟨by omega, by omega⟩)), (by omega), (by omega), (by omega), (by omega), (by omega), (by omega)⟩
abbrev ky_656947_Reader_row : gKey := (cX14_row, 2, "SpillForgeModel$Reader", none, [], "row", fun _ _ => True)
def pp_656947_Reader_row (D : va_G) (I : FieldType → ClassId) (P656913 : List Nat) (F656914 : Nat → va_E) (q656915 : Nat) (q656916 : Nat) (q656917 : Nat) (p656918 : Int32) (p656919 : Int32) (p656920 : Int32) (p656921 : Int32) (p656922 : Int32) (p656923 : Int32) (qo656924 : Nat) (p656925 : Int32) (p656926 : Int32) (p656927 : Int32) (qo656928 : Nat) (qo656929 : Nat) (p656930 : Int32) (p656931 : Int32) (p656932 : Int32) (p656933 : Int32) (p656934 : Int32) (p656935 : Int32) (p656936 : Int32) (p656937 : Int32) (f656938 : Nat → Int32) : Option Value → va_W → Nat → Nat → Prop := fun r w dc ds => ∃ (P657406 : List Nat) (F657407 : Nat → va_E) (o657394 : Int32) (o657395 : Int32) (o657396 : Int32) (o657397 : Int32) (o657398 : Int32) (q657399 : Nat) (o657400 : Int32) (o657401 : Int32) (o657402 : Int32) (o657403 : Int32) (o657404 : Int32) (o657405 : Int32), r = none ∧ w = va_pl P657406 F657407 ∧ rSub P656913 P657406 ∧ rFr [q656916, q656915] P656913 F656914 F657407 ∧ F657407 q656916 = .inr (20, [.int o657400, .int o657401, .int o657402, .int o657403, .int p656935, .int o657404, .int o657405]) ∧ F657407 q656915 = .inr (19, [.ref q656917, .int p656918, .int o657394, .int o657395, .int o657396, .int o657397, .int o657398, .ref q657399, .int p656925, .int p656926, .int p656927, .ref qo656928, .ref qo656929, .int p656930]) ∧ F657407 q656917 = .inl (I .byte, 8192, .inl f656938) ∧ dc ≤ (16 * (o657394.toInt - p656919.toInt)).toNat + 8 ∧ ds ≤ (160 * (o657394.toInt - p656919.toInt)).toNat + 64 ∧ gB o657394 0 8192 ∧ gB o657395 0 6 ∧ gB o657396 0 8192 ∧ gB o657398 0 6 ∧ gB o657400 0 22 ∧ gB o657401 0 1999 ∧ gB o657404 0 1 ∧ gB o657405 0 1 ∧ p656919.toInt ≤ o657394.toInt ∧ prP o657395 p656919 o657394 ∧ o657394.toInt ≤ p656918.toInt ∧ tP I P657406 F657407 o657395 q657399 qo656929 qo656928 ∧ vP o657395 o657397 ∧ rwP o657404 o657402 ∧ rwP o657405 o657403 ∧ opP o657400 ∧ opQ o657400 ∧ nzK p656920 ∧ rwQ p656919 o657394 o657395
def xp_656947_Reader_row (D : va_G) (I : FieldType → ClassId) (P656913 : List Nat) (F656914 : Nat → va_E) (q656915 : Nat) (q656916 : Nat) (q656917 : Nat) (p656918 : Int32) (p656919 : Int32) (p656920 : Int32) (p656921 : Int32) (p656922 : Int32) (p656923 : Int32) (qo656924 : Nat) (p656925 : Int32) (p656926 : Int32) (p656927 : Int32) (qo656928 : Nat) (qo656929 : Nat) (p656930 : Int32) (p656931 : Int32) (p656932 : Int32) (p656933 : Int32) (p656934 : Int32) (p656935 : Int32) (p656936 : Int32) (p656937 : Int32) (f656938 : Nat → Int32) : String → Nat → va_W → Nat → Nat → Prop := fun E q w dc ds => ∃ (P657409 : List Nat) (F657408 : Nat → va_E), E = "SpillForgeModel$Wrong" ∧ w = va_pl P657409 F657408 ∧ rSub P656913 P657409 ∧ rFr [q656916, q656915] P656913 F656914 F657408 ∧ q ∈ P657409 ∧ q ∉ P656913 ∧ wrF F657408 q ∧ dc ≤ (16 * (p656918.toInt - p656919.toInt)).toNat + 9 ∧ ds ≤ (160 * (p656918.toInt - p656919.toInt)).toNat + 71 ∧ rkR (F657408 q656916)
set_option maxRecDepth 100000 in
set_option maxHeartbeats 4000000 in
theorem cp_656947_Reader_row (l : Launch) (hl0 : l.stackTraces = false) (D : va_G) (I : FieldType → ClassId) (P656913 : List Nat) (F656914 : Nat → va_E) (q656915 : Nat) (q656916 : Nat) (q656917 : Nat) (p656918 : Int32) (p656919 : Int32) (p656920 : Int32) (p656921 : Int32) (p656922 : Int32) (p656923 : Int32) (qo656924 : Nat) (p656925 : Int32) (p656926 : Int32) (p656927 : Int32) (qo656928 : Nat) (qo656929 : Nat) (p656930 : Int32) (p656931 : Int32) (p656932 : Int32) (p656933 : Int32) (p656934 : Int32) (p656935 : Int32) (p656936 : Int32) (p656937 : Int32) (f656938 : Nat → Int32) (hmq656915 : q656915 ∈ P656913) (hmq656916 : q656916 ∈ P656913) (hmq656917 : q656917 ∈ P656913) (heq656915 : F656914 q656915 = .inr (19, [.ref q656917, .int p656918, .int p656919, .int p656920, .int p656921, .int p656922, .int p656923, .ref qo656924, .int p656925, .int p656926, .int p656927, .ref qo656928, .ref qo656929, .int p656930])) (heq656916 : F656914 q656916 = .inr (20, [.int p656931, .int p656932, .int p656933, .int p656934, .int p656935, .int p656936, .int p656937])) (heq656917 : F656914 q656917 = .inl (I .byte, 8192, .inl f656938)) (bp656918 : gB p656918 0 8192) (bp656919 : gB p656919 0 8192) (bp656920 : gB p656920 0 6) (bp656921 : gB p656921 0 8192) (bp656923 : gB p656923 0 6) (bp656925 : gB p656925 (-1) 8192) (bp656926 : gB p656926 0 4) (bp656927 : gB p656927 0 1000000) (bp656930 : gB p656930 0 1000000) (bp656931 : gB p656931 0 32) (bp656932 : gB p656932 0 1999) (bp656935 : gB p656935 0 1999) (bp656936 : gB p656936 0 1) (bp656937 : gB p656937 0 1) (bf656938 : gF f656938 (-128) 127) (x656939 : p656919.toInt ≤ p656918.toInt) (x656940 : qo656929 ∈ P656913) (x656941 : qo656928 ∈ P656913) (x656942 : tP I P656913 F656914 p656920 qo656924 qo656929 qo656928) (x656943 : vP p656920 p656922) (x656944 : rwP p656936 p656933) (x656945 : rwP p656937 p656934) (x656946 : opP p656931) : CtA (gV D I) l yX14_row cX14_row 2 none 9 200 ((16 * (p656918.toInt - p656919.toInt)).toNat + 9) ((160 * (p656918.toInt - p656919.toInt)).toNat + 71) [.ref q656915, .ref q656916] (va_pl P656913 F656914) (pp_656947_Reader_row D I P656913 F656914 q656915 q656916 q656917 p656918 p656919 p656920 p656921 p656922 p656923 qo656924 p656925 p656926 p656927 qo656928 qo656929 p656930 p656931 p656932 p656933 p656934 p656935 p656936 p656937 f656938) (xp_656947_Reader_row D I P656913 F656914 q656915 q656916 q656917 p656918 p656919 p656920 p656921 p656922 p656923 qo656924 p656925 p656926 p656927 qo656928 qo656929 p656930 p656931 p656932 p656933 p656934 p656935 p656936 p656937 f656938) := by
  refine CtA_of hl0 (by decide) (Nat.le_of_ble_eq_true rfl) ?_
  have bp656922 := gB_any p656922
  have bp656933 := gB_any p656933
  have bp656934 := gB_any p656934
  refine G_aload_n 0 dr_cX14_row_0 rfl ?_
  refine G_ldcK (a := D.2 1000 39) dr_cX14_row_1 (fun _ _ _ h => gx_vk 39 rfl rfl h) ?_
  have hl39_656947 : (sb_39.length : Int) = 4 := rfl
  refine Gw_callV (As := [.ref (D.2 1000 39)]) (gV_ok D I) (cp_655641_Reader_is l hl0 D I P656913 F656914 q656915 q656917 (D.2 1000 39) (D.2 1001 39) sb_39 p656918 p656919 p656920 p656921 p656922 p656923 qo656924 p656925 p656926 p656927 qo656928 qo656929 p656930 f656938 hmq656915 hmq656917 heq656915 heq656917 (gx_sc 39 rfl rfl) (by omega) (by decide +kernel) bp656918 bp656919 bp656920 bp656921 bp656923 bp656925 bp656926 bp656927 bp656930 bf656938 x656942) dr_cX14_row_3 ⟨wr_9_141, wr_1_32, wr_9_144, by decide, rfl, (Nat.le_of_ble_eq_true rfl), (Nat.le_of_ble_eq_true rfl)⟩ wr_9_143 wr_p_84 hmq656915 heq656915 rfl (show 0 + 0 ≤ ((16 * (p656918.toInt - p656919.toInt)).toNat + 9) by first | omega | decide) (show 0 + 0 ≤ ((160 * (p656918.toInt - p656919.toInt)).toNat + 71) by first | omega | decide) (Nat.le_of_ble_eq_true rfl) (fun r656952 w656953 dc656949 ds656950 hp656951 => ?_) (fun _ _ _ _ _ z => z.elim)
  obtain ⟨o656954, rfl, rfl, hdc, hds, bo656954, x656955⟩ := hp656951
  change G _ _ _ _ _ _ _ (.int o656954 :: _) _ _ _
  refine G_widen (cs' := 0) (sl' := 0) (by omega) (by omega) ?_
  refine G_if_eq 26 dr_cX14_row_6 (by decide +kernel) (fun hc656956 => ?_) (fun hc656956 => ?_)
  · have r656957 : o656954.toInt = 0 := gj_eq hc656956 (show Int32.toInt 0 = 0 by decide)
    have bo656954' : gB o656954 0 0 := ⟨by omega, by omega⟩
    refine G_aload_n 1 dr_cX14_row_26 rfl ?_
    refine G_aload_n 0 dr_cX14_row_27 rfl ?_
    refine G_iconst 2 dr_cX14_row_28 (by decide +kernel) ?_
    refine Gw_callV (As := [.int 2]) (gV_ok D I) (cp_655812_Reader_want l hl0 D I P656913 F656914 q656915 q656917 2 p656918 p656919 p656920 p656921 p656922 p656923 qo656924 p656925 p656926 p656927 qo656928 qo656929 p656930 f656938 hmq656915 hmq656917 heq656915 heq656917 (gB_w (gBl (show Int32.toInt 2 = 2 by decide)) (by decide) (by decide)) bp656918 bp656919 bp656920 bp656921 bp656923 bp656925 bp656926 bp656927 bp656930 bf656938 (by omega) x656940 x656941 x656942 x656943) dr_cX14_row_29 ⟨wr_9_93, wr_1_32, wr_9_96, by decide, rfl, (Nat.le_of_ble_eq_true rfl), (Nat.le_of_ble_eq_true rfl)⟩ wr_9_95 wr_p_80 hmq656915 heq656915 rfl (show 0 + ((16 * (p656918.toInt - p656919.toInt)).toNat + 1) ≤ ((16 * (p656918.toInt - p656919.toInt)).toNat + 9) by first | omega | decide) (show 0 + ((160 * (p656918.toInt - p656919.toInt)).toNat + 7) ≤ ((160 * (p656918.toInt - p656919.toInt)).toNat + 71) by first | omega | decide) (Nat.le_of_ble_eq_true rfl) (fun r656961 w656962 dc656958 ds656959 hp656960 => ?_) (fun _ qx656974 _ dc656972 ds656973 hx => by obtain ⟨P656970, F656971, rfl, rfl, hsb656963, hfr656964, hq656965, hqn656966, hwr656967, hdc656968, hds656969⟩ := hx; exact GT_outA rfl (show 0 + dc656972 ≤ ((16 * (p656918.toInt - p656919.toInt)).toNat + 9) by omega) (show 0 + ds656973 ≤ ((160 * (p656918.toInt - p656919.toInt)).toNat + 71) by omega) ⟨P656970, F656971, rfl, rfl, (rSub_tr (rSub_rf (P := P656913)) hsb656963), (rFr_v (show rFr [] P656913 F656914 F656971 from rFr_call (rSub_rf (P := P656913)) (rFr_rf (W := []) (P := P656913) (F := F656914)) hfr656964 (fun b hb hn => ⟨nm_n, nm_n⟩)) (fun b hn => nm_n)), hq656965, (fun z => hqn656966 ((rSub_rf (P := P656913)) _ z)), hwr656967, (by omega), (by omega), ⟨p656931, p656932, p656933, p656934, p656935, p656936, p656937, ((hfr656964 q656916 hmq656916 nm_n).trans heq656916), bp656931, bp656932, bp656935, bp656936, bp656937, x656946, x656944, x656945⟩⟩)
    obtain ⟨P656987, F656988, o656975, o656976, o656977, o656978, q656979, rfl, rfl, hsb656989, hfr656990, he656991, he656992, hdc, hds, bo656975, bo656976, bo656977, x656980, x656981, x656982, x656983, x656984, x656985, x656986⟩ := hp656960
    have hm656993 : q656915 ∈ P656987 := hsb656989 q656915 hmq656915
    have hm656994 : q656916 ∈ P656987 := hsb656989 q656916 hmq656916
    have hm656995 : q656917 ∈ P656987 := hsb656989 q656917 hmq656917
    have hsb656996 : rSub P656913 P656987 := rSub_tr (rSub_rf (P := P656913)) hsb656989
    have he656997 : F656988 q656916 = .inr (20, [.int p656931, .int p656932, .int p656933, .int p656934, .int p656935, .int p656936, .int p656937]) := (hfr656990 q656916 hmq656916 (nm_c (rn_oo heq656916 heq656915 (by decide)) nm_n)).trans heq656916
    have hfr656998 : rFr [q656915] P656913 F656914 F656988 := rFr_call (rSub_rf (P := P656913)) (rFr_rf (W := []) (P := P656913) (F := F656914)) hfr656990 (fun b hb hn => ⟨nm_n, (nm_c (fun e => hn (e ▸ List.mem_cons_self)) nm_n)⟩)
    have bo656978 := gB_any o656978
    rw [show Int32.toInt 2 = 2 from by decide] at x656986
    change G _ _ _ _ _ _ _ (.int p656922 :: _) _ _ _
    refine G_widen (cs' := (16 * (o656975.toInt - p656919.toInt)).toNat) (sl' := (160 * (o656975.toInt - p656919.toInt)).toNat) (by omega) (by omega) ?_
    have bv656999 : gB p656922 0 99 := vP_g2 x656985
    have x657000 : p656919.toInt ≤ o656975.toInt := by omega
    have x657001 : p656919.toInt + 0 ≤ p656919.toInt := by omega
    have x657002 : p656919.toInt + 0 ≤ o656975.toInt := by omega
    have x657003 : prQ o656976 (p656919.toInt + 1) o656975 := prP_q x656981 x657001 (by omega)
    refine G_widen (cs' := (16 * (o656975.toInt - p656919.toInt) + 0 : Int).toNat) (sl' := (160 * (o656975.toInt - p656919.toInt) + 0 : Int).toNat) (by omega) (by omega) ?_
    refine Gp_put 1 hm656994 he656997 dr_cX14_row_32 (gk_X15 D I) (Nat.le_of_ble_eq_true rfl) wr_9_183 rfl rfl rfl (Nat.le_of_ble_eq_true rfl) (fun F657004 e657005 n657006 => ?_)
    have he657007 : F657004 q656915 = .inr (19, [.ref q656917, .int p656918, .int o656975, .int o656976, .int o656977, .int o656978, .int p656920, .ref q656979, .int p656925, .int p656926, .int p656927, .ref qo656928, .ref qo656929, .int p656930]) := (n657006 q656915 (rn_oo he656991 he656997 (by decide))).trans he656991
    have he657008 : F657004 q656917 = .inl (I .byte, 8192, .inl f656938) := (n657006 q656917 (rn_ao he656992 he656997)).trans he656992
    have he657009 : F657004 q656916 = .inr (20, [.int p656931, .int p656922, .int p656933, .int p656934, .int p656935, .int p656936, .int p656937]) := e657005
    have hfr657010 : rFr [q656916, q656915] P656913 F656914 F657004 := rFr_put hfr656998 n657006
    have tp657011 : tP I P656987 F657004 o656976 q656979 qo656929 qo656928 := tP_put x656983 he656997 (by decide) n657006
    clear bo656954 hsb656989 hfr656990 he656991 he656992 he656997 hfr656998; try clear r656952; try clear w656953; try clear dc656949; try clear ds656950; try clear hp656951; try clear r656961; try clear w656962; try clear dc656958; try clear ds656959; try clear hp656960
    refine G_aload_n 0 dr_cX14_row_35 rfl ?_
    refine G_ldcK (a := D.2 1000 40) dr_cX14_row_36 (fun _ _ _ h => gx_vk 40 rfl rfl h) ?_
    have hl40_657011 : (sb_40.length : Int) = 1 := rfl
    refine Gw_callV (As := [.ref (D.2 1000 40)]) (gV_ok D I) (cp_655722_Reader_want l hl0 D I P656987 F657004 q656915 q656917 (D.2 1000 40) (D.2 1001 40) sb_40 p656918 o656975 o656976 o656977 o656978 p656920 q656979 p656925 p656926 p656927 qo656928 qo656929 p656930 f656938 hm656993 hm656995 he657007 he657008 (gx_sc 40 rfl rfl) (by omega) (by decide +kernel) bp656918 bo656975 bo656976 bo656977 bp656920 bp656925 bp656926 bp656927 bp656930 bf656938 (by omega) (hsb656996 _ x656940) (hsb656996 _ x656941) tp657011) dr_cX14_row_38 ⟨wr_9_137, wr_1_32, wr_9_140, by decide, rfl, (Nat.le_of_ble_eq_true rfl), (Nat.le_of_ble_eq_true rfl)⟩ wr_9_139 wr_p_83 hm656993 he657007 rfl (show (16 * (o656975.toInt - p656919.toInt) + 0 : Int).toNat + ((16 * (p656918.toInt - o656975.toInt)).toNat + 1) ≤ ((16 * (p656918.toInt - p656919.toInt)).toNat + 9) by first | omega | decide) (show (160 * (o656975.toInt - p656919.toInt) + 0 : Int).toNat + ((160 * (p656918.toInt - o656975.toInt)).toNat + 7) ≤ ((160 * (p656918.toInt - p656919.toInt)).toNat + 71) by first | omega | decide) (Nat.le_of_ble_eq_true rfl) (fun r657016 w657017 dc657013 ds657014 hp657015 => ?_) (fun _ qx657029 _ dc657027 ds657028 hx => by obtain ⟨P657025, F657026, rfl, rfl, hsb657018, hfr657019, hq657020, hqn657021, hwr657022, hdc657023, hds657024⟩ := hx; exact GT_outA rfl (show (16 * (o656975.toInt - p656919.toInt) + 0 : Int).toNat + dc657027 ≤ ((16 * (p656918.toInt - p656919.toInt)).toNat + 9) by omega) (show (160 * (o656975.toInt - p656919.toInt) + 0 : Int).toNat + ds657028 ≤ ((160 * (p656918.toInt - p656919.toInt)).toNat + 71) by omega) ⟨P657025, F657026, rfl, rfl, (rSub_tr hsb656996 hsb657018), (show rFr [q656916, q656915] P656913 F656914 F657026 from rFr_call hsb656996 hfr657010 hfr657019 (fun b hb hn => ⟨(nm_c (fun e => hn (e ▸ List.mem_cons_self)) (nm_c (fun e => hn (e ▸ (List.mem_cons_of_mem _ List.mem_cons_self))) nm_n)), nm_n⟩)), hq657020, (fun z => hqn657021 (hsb656996 _ z)), hwr657022, (by omega), (by omega), ⟨p656931, p656922, p656933, p656934, p656935, p656936, p656937, ((hfr657019 q656916 hm656994 nm_n).trans he657009), bp656931, (gB_w bv656999 (by decide) (by decide)), bp656935, bp656936, bp656937, x656946, x656944, x656945⟩⟩)
    obtain ⟨P657041, F657042, o657030, o657031, o657032, o657033, q657034, rfl, rfl, hsb657043, hfr657044, he657045, he657046, hdc, hds, bo657030, bo657031, bo657032, x657035, x657036, x657037, x657038, x657039, x657040⟩ := hp657015
    have hm657047 : q656915 ∈ P657041 := hsb657043 q656915 hm656993
    have hm657048 : q656916 ∈ P657041 := hsb657043 q656916 hm656994
    have hm657049 : q656917 ∈ P657041 := hsb657043 q656917 hm656995
    have hsb657050 : rSub P656913 P657041 := rSub_tr hsb656996 hsb657043
    have he657051 : F657042 q656916 = .inr (20, [.int p656931, .int p656922, .int p656933, .int p656934, .int p656935, .int p656936, .int p656937]) := (hfr657044 q656916 hm656994 (nm_c (rn_oo he657009 he657007 (by decide)) nm_n)).trans he657009
    have hfr657052 : rFr [q656916, q656915] P656913 F656914 F657042 := rFr_call hsb656996 hfr657010 hfr657044 (fun b hb hn => ⟨(nm_c (fun e => hn (e ▸ List.mem_cons_self)) (nm_c (fun e => hn (e ▸ (List.mem_cons_of_mem _ List.mem_cons_self))) nm_n)), (nm_c (fun e => hn (e ▸ (List.mem_cons_of_mem _ List.mem_cons_self))) nm_n)⟩)
    have bo657033 := gB_any o657033
    change G _ _ _ _ _ _ _ _ _ _ _
    refine G_widen (cs' := (16 * (o656975.toInt - p656919.toInt) + 0 : Int).toNat + ((16 * (o657030.toInt - o656975.toInt)).toNat)) (sl' := (160 * (o656975.toInt - p656919.toInt) + 0 : Int).toNat + ((160 * (o657030.toInt - o656975.toInt)).toNat)) (by omega) (by omega) ?_
    have x657053 : p656919.toInt ≤ o657030.toInt := by omega
    have x657054 : p656919.toInt + 1 ≤ o656975.toInt := by have q := (prQ_le x657003 x657040); omega
    have x657055 : p656919.toInt + 1 ≤ o657030.toInt := by omega
    have x657056 : prQ o657031 (p656919.toInt + 2) o657030 := prP_q x657036 x657054 (by omega)
    refine G_widen (cs' := (16 * (o657030.toInt - p656919.toInt) + 0 : Int).toNat) (sl' := (160 * (o657030.toInt - p656919.toInt) + 0 : Int).toNat) (by omega) (by omega) ?_
    clear bo656977 hm656993 hm656994 hm656995 hsb656996 he657007 he657008 he657009 hfr657010 hsb657043 hfr657044; try clear r657016; try clear w657017; try clear dc657013; try clear ds657014; try clear hp657015
    refine G_aload_n 0 dr_cX14_row_41 rfl ?_
    refine G_ldcK (a := D.2 1000 41) dr_cX14_row_42 (fun _ _ _ h => gx_vk 41 rfl rfl h) ?_
    have hl41_657056 : (sb_41.length : Int) = 2 := rfl
    refine Gw_callV (As := [.ref (D.2 1000 41)]) (gV_ok D I) (cp_655641_Reader_is l hl0 D I P657041 F657042 q656915 q656917 (D.2 1000 41) (D.2 1001 41) sb_41 p656918 o657030 o657031 o657032 o657033 o656976 q657034 p656925 p656926 p656927 qo656928 qo656929 p656930 f656938 hm657047 hm657049 he657045 he657046 (gx_sc 41 rfl rfl) (by omega) (by decide +kernel) bp656918 bo657030 bo657031 bo657032 bo656976 bp656925 bp656926 bp656927 bp656930 bf656938 x657038) dr_cX14_row_44 ⟨wr_9_141, wr_1_32, wr_9_144, by decide, rfl, (Nat.le_of_ble_eq_true rfl), (Nat.le_of_ble_eq_true rfl)⟩ wr_9_143 wr_p_84 hm657047 he657045 rfl (show (16 * (o657030.toInt - p656919.toInt) + 0 : Int).toNat + 0 ≤ ((16 * (p656918.toInt - p656919.toInt)).toNat + 9) by first | omega | decide) (show (160 * (o657030.toInt - p656919.toInt) + 0 : Int).toNat + 0 ≤ ((160 * (p656918.toInt - p656919.toInt)).toNat + 71) by first | omega | decide) (Nat.le_of_ble_eq_true rfl) (fun r657061 w657062 dc657058 ds657059 hp657060 => ?_) (fun _ _ _ _ _ z => z.elim)
    obtain ⟨o657063, rfl, rfl, hdc, hds, bo657063, x657064⟩ := hp657060
    change G _ _ _ _ _ _ _ (.int o657063 :: _) _ _ _
    refine G_widen (cs' := (16 * (o657030.toInt - p656919.toInt) + 0 : Int).toNat + 0) (sl' := (160 * (o657030.toInt - p656919.toInt) + 0 : Int).toNat + 0) (by omega) (by omega) ?_
    refine G_if_eq 61 dr_cX14_row_47 (by decide +kernel) (fun hc657065 => ?_) (fun hc657065 => ?_)
    · have r657066 : o657063.toInt = 0 := gj_eq hc657065 (show Int32.toInt 0 = 0 by decide)
      have bo657063' : gB o657063 0 0 := ⟨by omega, by omega⟩
      refine G_aload_n 0 dr_cX14_row_61 rfl ?_
      refine G_aload_n 1 dr_cX14_row_62 rfl ?_
      refine G_iconst 0 dr_cX14_row_63 (by decide +kernel) ?_
      refine Gw_callV (As := [.ref q656916, .int 0]) (gV_ok D I) (cp_655979_Reader_operand l hl0 D I P657041 F657042 q656915 q656916 q656917 0 p656918 o657030 o657031 o657032 o657033 o656976 q657034 p656925 p656926 p656927 qo656928 qo656929 p656930 p656931 p656922 p656933 p656934 p656935 p656936 p656937 f656938 hm657047 hm657048 hm657049 he657045 he657051 he657046 (gB_w (gBl (show Int32.toInt 0 = 0 by decide)) (by decide) (by decide)) bp656918 bo657030 bo657031 bo657032 bo656976 bp656925 bp656926 bp656927 bp656930 bp656931 (gB_w bv656999 (by decide) (by decide)) bp656935 bp656936 bp656937 bf656938 (by omega) (hsb657050 _ x656940) (hsb657050 _ x656941) x657038 x657039 x656944 x656945 x656946) dr_cX14_row_64 ⟨wr_10_89, wr_1_32, wr_10_92, by decide, rfl, (Nat.le_of_ble_eq_true rfl), (Nat.le_of_ble_eq_true rfl)⟩ wr_10_91 wr_p_89 hm657047 he657045 rfl (show (16 * (o657030.toInt - p656919.toInt) + 0 : Int).toNat + 0 + ((16 * (p656918.toInt - o657030.toInt)).toNat + 1) ≤ ((16 * (p656918.toInt - p656919.toInt)).toNat + 9) by first | omega | decide) (show (160 * (o657030.toInt - p656919.toInt) + 0 : Int).toNat + 0 + ((160 * (p656918.toInt - o657030.toInt)).toNat + 7) ≤ ((160 * (p656918.toInt - p656919.toInt)).toNat + 71) by first | omega | decide) (Nat.le_of_ble_eq_true rfl) (fun r657070 w657071 dc657067 ds657068 hp657069 => ?_) (fun _ qx657083 _ dc657081 ds657082 hx => by obtain ⟨P657079, F657080, rfl, rfl, hsb657072, hfr657073, hq657074, hqn657075, hwr657076, hdc657077, hds657078, x657084⟩ := hx; exact GT_outA rfl (show (16 * (o657030.toInt - p656919.toInt) + 0 : Int).toNat + 0 + dc657081 ≤ ((16 * (p656918.toInt - p656919.toInt)).toNat + 9) by omega) (show (160 * (o657030.toInt - p656919.toInt) + 0 : Int).toNat + 0 + ds657082 ≤ ((160 * (p656918.toInt - p656919.toInt)).toNat + 71) by omega) ⟨P657079, F657080, rfl, rfl, (rSub_tr hsb657050 hsb657072), (show rFr [q656916, q656915] P656913 F656914 F657080 from rFr_call hsb657050 hfr657052 hfr657073 (fun b hb hn => ⟨(nm_c (fun e => hn (e ▸ List.mem_cons_self)) (nm_c (fun e => hn (e ▸ (List.mem_cons_of_mem _ List.mem_cons_self))) nm_n)), nm_n⟩)), hq657074, (fun z => hqn657075 (hsb657050 _ z)), hwr657076, (by omega), (by omega), ⟨p656931, p656922, p656933, p656934, p656935, p656936, p656937, ((hfr657073 q656916 hm657048 nm_n).trans he657051), bp656931, (gB_w bv656999 (by decide) (by decide)), bp656935, bp656936, bp656937, x656946, x656944, x656945⟩⟩)
      obtain ⟨P657102, F657103, o657085, o657086, o657087, o657088, q657089, o657090, o657091, o657092, o657093, rfl, rfl, hsb657104, hfr657105, he657106, he657107, he657108, hdc, hds, bo657085, bo657086, bo657087, bo657092, bo657093, x657094, x657095, x657096, x657097, x657098, x657099, x657100, x657101⟩ := hp657069
      have hm657109 : q656915 ∈ P657102 := hsb657104 q656915 hm657047
      have hm657110 : q656916 ∈ P657102 := hsb657104 q656916 hm657048
      have hm657111 : q656917 ∈ P657102 := hsb657104 q656917 hm657049
      have hsb657112 : rSub P656913 P657102 := rSub_tr hsb657050 hsb657104
      have hfr657113 : rFr [q656916, q656915] P656913 F656914 F657103 := rFr_call hsb657050 hfr657052 hfr657105 (fun b hb hn => ⟨(nm_c (fun e => hn (e ▸ List.mem_cons_self)) (nm_c (fun e => hn (e ▸ (List.mem_cons_of_mem _ List.mem_cons_self))) nm_n)), (nm_c (fun e => hn (e ▸ List.mem_cons_self)) (nm_c (fun e => hn (e ▸ (List.mem_cons_of_mem _ List.mem_cons_self))) nm_n))⟩)
      have bo657088 := gB_any o657088
      have bo657090 := gB_any o657090
      have bo657091 := gB_any o657091
      change G _ _ _ _ _ _ _ _ _ _ _
      refine G_widen (cs' := (16 * (o657030.toInt - p656919.toInt) + 0 : Int).toNat + 0 + ((16 * (o657085.toInt - o657030.toInt)).toNat)) (sl' := (160 * (o657030.toInt - p656919.toInt) + 0 : Int).toNat + 0 + ((160 * (o657085.toInt - o657030.toInt)).toNat)) (by omega) (by omega) ?_
      have x657114 : p656919.toInt ≤ o657085.toInt := by omega
      have x657115 : p656919.toInt + 2 ≤ o657030.toInt := by have q := (prQ_le x657056 x657101); omega
      have x657116 : p656919.toInt + 2 ≤ o657085.toInt := by omega
      have x657117 : prQ o657086 (p656919.toInt + 3) o657085 := prP_q x657095 x657115 (by omega)
      refine G_widen (cs' := (16 * (o657085.toInt - p656919.toInt) + 0 : Int).toNat) (sl' := (160 * (o657085.toInt - p656919.toInt) + 0 : Int).toNat) (by omega) (by omega) ?_
      clear he657045 he657046 bo657032 hm657047 hm657048 hm657049 hsb657050 he657051 hfr657052 bo657063 hsb657104 hfr657105; try clear r657061; try clear w657062; try clear dc657058; try clear ds657059; try clear hp657060; try clear r657070; try clear w657071; try clear dc657067; try clear ds657068; try clear hp657069
      refine G_aload_n 1 dr_cX14_row_67 rfl ?_
      refine G_aload_n 0 dr_cX14_row_68 rfl ?_
      refine Gp_get 3 hm657109 he657107 dr_cX14_row_69 (gk_X14 D I) (Nat.le_of_ble_eq_true rfl) wr_9_39 rfl ?_
      refine G_iconst 5 dr_cX14_row_72 (by decide +kernel) ?_
      refine G_icmp_ne 86 dr_cX14_row_73 (by decide +kernel) (fun hc657118 => ?_) (fun hc657118 => ?_)
      · have r657119 : o657086.toInt ≠ 5 := gj_neq hc657118 (show Int32.toInt 5 = 5 by decide)
        refine G_widen (cs' := (16 * (o657085.toInt - p656919.toInt) + 8 : Int).toNat) (sl' := (160 * (o657085.toInt - p656919.toInt) + 64 : Int).toNat) (by omega) (by omega) ?_
        refine G_iconst 0 dr_cX14_row_86 (by decide +kernel) ?_
        refine Gp_put 0 hm657110 he657106 dr_cX14_row_87 (gk_X15 D I) (Nat.le_of_ble_eq_true rfl) wr_9_179 rfl rfl rfl (Nat.le_of_ble_eq_true rfl) (fun F657120 e657121 n657122 => ?_)
        have he657123 : F657120 q656915 = .inr (19, [.ref q656917, .int p656918, .int o657085, .int o657086, .int o657087, .int o657088, .int o657031, .ref q657089, .int p656925, .int p656926, .int p656927, .ref qo656928, .ref qo656929, .int p656930]) := (n657122 q656915 (rn_oo he657107 he657106 (by decide))).trans he657107
        have he657124 : F657120 q656917 = .inl (I .byte, 8192, .inl f656938) := (n657122 q656917 (rn_ao he657108 he657106)).trans he657108
        have he657125 : F657120 q656916 = .inr (20, [.int 0, .int p656922, .int o657090, .int o657091, .int p656935, .int o657092, .int o657093]) := e657121
        have hfr657126 : rFr [q656916, q656915] P656913 F656914 F657120 := rFr_put' List.mem_cons_self hfr657113 n657122
        have tp657127 : tP I P657102 F657120 o657086 q657089 qo656929 qo656928 := tP_put x657097 he657106 (by decide) n657122
        clear he657106 he657107 he657108 hfr657113
        refine G_aload_n 1 dr_cX14_row_90 rfl ?_
        refine Gp_get 0 hm657110 he657125 dr_cX14_row_91 (gk_X15 D I) (Nat.le_of_ble_eq_true rfl) wr_9_179 rfl ?_
        refine G_if_ne 98 dr_cX14_row_94 (by decide +kernel) (fun hc => absurd hc (by decide)) (fun _ => ?_)
        exact G_vretA dr_cX14_row_97 rfl (show (16 * (o657085.toInt - p656919.toInt) + 8 : Int).toNat ≤ ((16 * (p656918.toInt - p656919.toInt)).toNat + 9) by omega) (show (160 * (o657085.toInt - p656919.toInt) + 64 : Int).toNat ≤ ((160 * (p656918.toInt - p656919.toInt)).toNat + 71) by omega) ⟨P657102, F657120, o657085, o657086, o657087, o657088, o657031, q657089, 0, p656922, o657090, o657091, o657092, o657093, rfl, rfl, hsb657112, hfr657126, he657125, he657123, he657124, (by omega), (by omega), bo657085, bo657086, bo657087, bo657031, (gB_w (gBl (show Int32.toInt 0 = 0 by decide)) (by decide) (by decide)), (gB_w bv656999 (by decide) (by decide)), bo657092, bo657093, (by have qa0 : Int32.toInt 0 = 0 := (by decide); omega), (prP_le x657095 (by omega)), (by have qa0 : Int32.toInt 0 = 0 := (by decide); omega), tp657127, x657098, x657099, x657100, (Or.inl (by decide)), (Or.inl (by decide)), (show nzK p656920 by unfold nzK; omega), ⟨by omega, Or.inr (by omega)⟩⟩
      · have r657128 : o657086.toInt = 5 := gj_eq hc657118 (show Int32.toInt 5 = 5 by decide)
        have bo657086' : gB o657086 5 5 := ⟨by omega, by omega⟩
        refine G_aload_n 0 dr_cX14_row_76 rfl ?_
        refine Gp_get 7 hm657109 he657107 dr_cX14_row_77 (gk_X14 D I) (Nat.le_of_ble_eq_true rfl) wr_9_43 rfl ?_
        obtain ⟨q657129, n657130, f657131, p657132, p657133, hm657134, he657135, hm657136, he657137, bf657131, x657138, bp657133, hg657139, hg657140⟩ := x657097.2 (by omega)
        have bp657132 := gB_any p657132
        refine Gw_callSN (As := [.ref q657089]) (gV_ok D I) (cp_656210_SpillForgeModel_operation l hl0 D I P657102 F657103 q657089 q657129 p657132 p657133 f657131 n657130 hm657134 hm657136 he657135 he657137 bp657133 bf657131 (by have qa0 : Int32.toInt 0 = 0 := (by decide); omega) (by have qa0 : Int32.toInt 0 = 0 := (by decide); omega)) dr_cX14_row_80 ⟨(fun _ _ _ h => gn_w 81 rfl h), wr_1_14, wr_10_97, by decide, rfl, (Nat.le_of_ble_eq_true rfl), (Nat.le_of_ble_eq_true rfl)⟩ wr_10_96 (show (16 * (o657085.toInt - p656919.toInt) + 0 : Int).toNat + 8 ≤ ((16 * (p656918.toInt - p656919.toInt)).toNat + 9) by first | omega | decide) (show (160 * (o657085.toInt - p656919.toInt) + 0 : Int).toNat + 64 ≤ ((160 * (p656918.toInt - p656919.toInt)).toNat + 71) by first | omega | decide) (Nat.le_of_ble_eq_true rfl) (fun r657144 w657145 dc657141 ds657142 hp657143 => ?_)
        obtain ⟨P657149, F657150, o657146, rfl, rfl, hsb657151, hfr657152, he657153, he657154, hdc, hds, bo657146, x657147, x657148⟩ := hp657143
        have hm657155 : q656915 ∈ P657149 := hsb657151 q656915 hm657109
        have hm657156 : q656916 ∈ P657149 := hsb657151 q656916 hm657110
        have hm657157 : q656917 ∈ P657149 := hsb657151 q656917 hm657111
        have hm657158 : q657089 ∈ P657149 := hsb657151 q657089 hm657134
        have hm657159 : q657129 ∈ P657149 := hsb657151 q657129 hm657136
        have hsb657160 : rSub P656913 P657149 := rSub_tr hsb657112 hsb657151
        have he657161 : F657150 q656916 = .inr (20, [.int p656931, .int p656922, .int o657090, .int o657091, .int p656935, .int o657092, .int o657093]) := (hfr657152 q656916 hm657110 nm_n).trans he657106
        have he657162 : F657150 q656915 = .inr (19, [.ref q656917, .int p656918, .int o657085, .int o657086, .int o657087, .int o657088, .int o657031, .ref q657089, .int p656925, .int p656926, .int p656927, .ref qo656928, .ref qo656929, .int p656930]) := (hfr657152 q656915 hm657109 nm_n).trans he657107
        have he657163 : F657150 q656917 = .inl (I .byte, 8192, .inl f656938) := (hfr657152 q656917 hm657111 nm_n).trans he657108
        have hfr657164 : rFr [q656916, q656915] P656913 F656914 F657150 := rFr_call hsb657112 hfr657113 hfr657152 (fun b hb hn => ⟨(nm_c (fun e => hn (e ▸ List.mem_cons_self)) (nm_c (fun e => hn (e ▸ (List.mem_cons_of_mem _ List.mem_cons_self))) nm_n)), nm_n⟩)
        have tp657165 : tP I P657149 F657150 o657086 q657089 qo656929 qo656928 := tP_new x657097 hsb657151 (fun b hb => hfr657152 b hb (fun z => by cases z)) (Or.inl rfl) (Or.inl rfl)
        change G _ _ _ _ _ _ _ (.int o657146 :: _) _ _ _
        refine G_widen (cs' := (16 * (o657085.toInt - p656919.toInt) + 0 : Int).toNat + 8) (sl' := (160 * (o657085.toInt - p656919.toInt) + 0 : Int).toNat + 64) (by omega) (by omega) ?_
        refine G_widen (cs' := (16 * (o657085.toInt - p656919.toInt) + 8 : Int).toNat) (sl' := (160 * (o657085.toInt - p656919.toInt) + 64 : Int).toNat) (by omega) (by omega) ?_
        refine G_goto 87 dr_cX14_row_83 (by decide +kernel) ?_
        refine Gp_put 0 hm657156 he657161 dr_cX14_row_87 (gk_X15 D I) (Nat.le_of_ble_eq_true rfl) wr_9_179 rfl rfl rfl (Nat.le_of_ble_eq_true rfl) (fun F657166 e657167 n657168 => ?_)
        have he657169 : F657166 q656915 = .inr (19, [.ref q656917, .int p656918, .int o657085, .int o657086, .int o657087, .int o657088, .int o657031, .ref q657089, .int p656925, .int p656926, .int p656927, .ref qo656928, .ref qo656929, .int p656930]) := (n657168 q656915 (rn_oo he657162 he657161 (by decide))).trans he657162
        have he657170 : F657166 q656917 = .inl (I .byte, 8192, .inl f656938) := (n657168 q656917 (rn_ao he657163 he657161)).trans he657163
        have he657171 : F657166 q657089 = .inr (0, [.ref q657129, .int 0, .int p657132, .int p657133]) := (n657168 q657089 (rn_oo he657153 he657161 (by decide))).trans he657153
        have he657172 : F657166 q657129 = .inl (I .byte, n657130, .inl f657131) := (n657168 q657129 (rn_ao he657154 he657161)).trans he657154
        have he657173 : F657166 q656916 = .inr (20, [.int o657146, .int p656922, .int o657090, .int o657091, .int p656935, .int o657092, .int o657093]) := e657167
        have hfr657174 : rFr [q656916, q656915] P656913 F656914 F657166 := rFr_put' List.mem_cons_self hfr657164 n657168
        have tp657175 : tP I P657149 F657166 o657086 q657089 qo656929 qo656928 := tP_put tp657165 he657161 (by decide) n657168
        clear he657106 he657107 he657108 bo657086 hm657109 hm657110 hm657111 hsb657112 hfr657113 hm657134 he657135 hm657136 he657137 hg657139 hg657140 hsb657151 hfr657152 he657153 he657154 he657161 he657162 he657163 hfr657164; try clear r657144; try clear w657145; try clear dc657141; try clear ds657142; try clear hp657143
        refine G_aload_n 1 dr_cX14_row_90 rfl ?_
        refine Gp_get 0 hm657156 he657173 dr_cX14_row_91 (gk_X15 D I) (Nat.le_of_ble_eq_true rfl) wr_9_179 rfl ?_
        refine G_if_ne 98 dr_cX14_row_94 (by decide +kernel) (fun hc657176 => ?_) (fun hc657176 => ?_)
        · have r657177 : o657146.toInt ≠ 0 := gj_neq hc657176 (show Int32.toInt 0 = 0 by decide)
          have bo657146' : gB o657146 1 14 := ⟨by omega, by omega⟩
          refine G_aload_n 0 dr_cX14_row_98 rfl ?_
          refine Gw_callV (As := []) (gV_ok D I) (cp_653764_Reader_next l hl0 D I P657149 F657166 q656915 q656917 p656918 o657085 o657086 o657087 o657088 o657031 q657089 p656925 p656926 p656927 qo656928 qo656929 p656930 f656938 hm657155 hm657157 he657169 he657170 bp656918 bo657085 (gB_w bo657086' (by decide) (by decide)) bo657087 bo657031 bp656925 bp656926 bp656927 bp656930 bf656938 (by have qa0 : Int32.toInt 0 = 0 := (by decide); omega) (hsb657160 _ x656940) (hsb657160 _ x656941)) dr_cX14_row_99 ⟨wr_7_215, wr_1_32, wr_7_218, by decide, rfl, (Nat.le_of_ble_eq_true rfl), (Nat.le_of_ble_eq_true rfl)⟩ wr_7_217 wr_p_75 hm657155 he657169 rfl (show (16 * (o657085.toInt - p656919.toInt) + 8 : Int).toNat + ((16 * (p656918.toInt - o657085.toInt)).toNat) ≤ ((16 * (p656918.toInt - p656919.toInt)).toNat + 9) by first | omega | decide) (show (160 * (o657085.toInt - p656919.toInt) + 64 : Int).toNat + ((160 * (p656918.toInt - o657085.toInt)).toNat) ≤ ((160 * (p656918.toInt - p656919.toInt)).toNat + 71) by first | omega | decide) (Nat.le_of_ble_eq_true rfl) (fun r657181 w657182 dc657178 ds657179 hp657180 => ?_) (fun _ _ _ _ _ z => z.elim)
          obtain ⟨P657193, F657194, o657183, o657184, o657185, o657186, q657187, rfl, rfl, hsb657195, hfr657196, he657197, he657198, hdc, hds, bo657183, bo657184, bo657185, x657188, x657189, x657190, x657191, x657192⟩ := hp657180
          have hm657199 : q656915 ∈ P657193 := hsb657195 q656915 hm657155
          have hm657200 : q656916 ∈ P657193 := hsb657195 q656916 hm657156
          have hm657201 : q656917 ∈ P657193 := hsb657195 q656917 hm657157
          have hm657202 : q657089 ∈ P657193 := hsb657195 q657089 hm657158
          have hm657203 : q657129 ∈ P657193 := hsb657195 q657129 hm657159
          have hsb657204 : rSub P656913 P657193 := rSub_tr hsb657160 hsb657195
          have he657205 : F657194 q656916 = .inr (20, [.int o657146, .int p656922, .int o657090, .int o657091, .int p656935, .int o657092, .int o657093]) := (hfr657196 q656916 hm657156 (nm_c (rn_oo he657173 he657169 (by decide)) nm_n)).trans he657173
          have he657206 : F657194 q657089 = .inr (0, [.ref q657129, .int 0, .int p657132, .int p657133]) := (hfr657196 q657089 hm657158 (nm_c (rn_oo he657171 he657169 (by decide)) nm_n)).trans he657171
          have he657207 : F657194 q657129 = .inl (I .byte, n657130, .inl f657131) := (hfr657196 q657129 hm657159 (nm_c (rn_ao he657172 he657169) nm_n)).trans he657172
          have hfr657208 : rFr [q656916, q656915] P656913 F656914 F657194 := rFr_call hsb657160 hfr657174 hfr657196 (fun b hb hn => ⟨(nm_c (fun e => hn (e ▸ List.mem_cons_self)) (nm_c (fun e => hn (e ▸ (List.mem_cons_of_mem _ List.mem_cons_self))) nm_n)), (nm_c (fun e => hn (e ▸ (List.mem_cons_of_mem _ List.mem_cons_self))) nm_n)⟩)
          have bo657186 := gB_any o657186
          change G _ _ _ _ _ _ _ _ _ _ _
          refine G_widen (cs' := (16 * (o657085.toInt - p656919.toInt) + 8 : Int).toNat + ((16 * (o657183.toInt - o657085.toInt)).toNat)) (sl' := (160 * (o657085.toInt - p656919.toInt) + 64 : Int).toNat + ((160 * (o657183.toInt - o657085.toInt)).toNat)) (by omega) (by omega) ?_
          have x657209 : p656919.toInt ≤ o657183.toInt := by omega
          have x657210 : p656919.toInt + 2 ≤ o657085.toInt := by have q := (prQ_le x657117 (show nzK o657086 by unfold nzK; omega)); omega
          have x657211 : p656919.toInt + 2 ≤ o657183.toInt := by omega
          have x657212 : prQ o657184 (p656919.toInt + 3) o657183 := prP_q x657189 x657210 (by omega)
          refine G_widen (cs' := (16 * (o657183.toInt - p656919.toInt) + 8 : Int).toNat) (sl' := (160 * (o657183.toInt - p656919.toInt) + 64 : Int).toNat) (by omega) (by omega) ?_
          clear bo656975 bo657087 bf657131 bp657133 bp657132 bo657146 hm657155 hm657156 hm657157 hm657158 hm657159 hsb657160 he657169 he657170 he657171 he657172 he657173 hfr657174 hsb657195 hfr657196 hm657202 hm657203 he657206 he657207; try clear x656980; try clear x656981; try clear x656982; try clear x657000; try clear x657002; try clear x657003; try clear x657035; try clear x657036; try clear x657054; try clear x657138; try clear r657181; try clear w657182; try clear dc657178; try clear ds657179; try clear hp657180
          refine G_aload_n 0 dr_cX14_row_102 rfl ?_
          refine G_aload_n 1 dr_cX14_row_103 rfl ?_
          refine G_iconst 1 dr_cX14_row_104 (by decide +kernel) ?_
          refine Gw_callV (As := [.ref q656916, .int 1]) (gV_ok D I) (cp_655979_Reader_operand l hl0 D I P657193 F657194 q656915 q656916 q656917 1 p656918 o657183 o657184 o657185 o657186 o657086 q657187 p656925 p656926 p656927 qo656928 qo656929 p656930 o657146 p656922 o657090 o657091 p656935 o657092 o657093 f656938 hm657199 hm657200 hm657201 he657197 he657205 he657198 (gB_w (gBl (show Int32.toInt 1 = 1 by decide)) (by decide) (by decide)) bp656918 bo657183 bo657184 bo657185 (gB_w bo657086' (by decide) (by decide)) bp656925 bp656926 bp656927 bp656930 (gB_w bo657146' (by decide) (by decide)) (gB_w bv656999 (by decide) (by decide)) bp656935 bo657092 bo657093 bf656938 (by omega) (hsb657204 _ x656940) (hsb657204 _ x656941) x657191 x657192 x657099 x657100 (opP_of (gB_w bo657146' (by decide) (by decide)))) dr_cX14_row_105 ⟨wr_10_89, wr_1_32, wr_10_92, by decide, rfl, (Nat.le_of_ble_eq_true rfl), (Nat.le_of_ble_eq_true rfl)⟩ wr_10_91 wr_p_89 hm657199 he657197 rfl (show (16 * (o657183.toInt - p656919.toInt) + 8 : Int).toNat + ((16 * (p656918.toInt - o657183.toInt)).toNat + 1) ≤ ((16 * (p656918.toInt - p656919.toInt)).toNat + 9) by first | omega | decide) (show (160 * (o657183.toInt - p656919.toInt) + 64 : Int).toNat + ((160 * (p656918.toInt - o657183.toInt)).toNat + 7) ≤ ((160 * (p656918.toInt - p656919.toInt)).toNat + 71) by first | omega | decide) (Nat.le_of_ble_eq_true rfl) (fun r657216 w657217 dc657213 ds657214 hp657215 => ?_) (fun _ qx657229 _ dc657227 ds657228 hx => by obtain ⟨P657225, F657226, rfl, rfl, hsb657218, hfr657219, hq657220, hqn657221, hwr657222, hdc657223, hds657224, x657230⟩ := hx; exact GT_outA rfl (show (16 * (o657183.toInt - p656919.toInt) + 8 : Int).toNat + dc657227 ≤ ((16 * (p656918.toInt - p656919.toInt)).toNat + 9) by omega) (show (160 * (o657183.toInt - p656919.toInt) + 64 : Int).toNat + ds657228 ≤ ((160 * (p656918.toInt - p656919.toInt)).toNat + 71) by omega) ⟨P657225, F657226, rfl, rfl, (rSub_tr hsb657204 hsb657218), (show rFr [q656916, q656915] P656913 F656914 F657226 from rFr_call hsb657204 hfr657208 hfr657219 (fun b hb hn => ⟨(nm_c (fun e => hn (e ▸ List.mem_cons_self)) (nm_c (fun e => hn (e ▸ (List.mem_cons_of_mem _ List.mem_cons_self))) nm_n)), nm_n⟩)), hq657220, (fun z => hqn657221 (hsb657204 _ z)), hwr657222, (by omega), (by omega), ⟨o657146, p656922, o657090, o657091, p656935, o657092, o657093, ((hfr657219 q656916 hm657200 nm_n).trans he657205), (gB_w bo657146' (by decide) (by decide)), (gB_w bv656999 (by decide) (by decide)), bp656935, bo657092, bo657093, (opP_of (gB_w bo657146' (by decide) (by decide))), x657099, x657100⟩⟩)
          obtain ⟨P657248, F657249, o657231, o657232, o657233, o657234, q657235, o657236, o657237, o657238, o657239, rfl, rfl, hsb657250, hfr657251, he657252, he657253, he657254, hdc, hds, bo657231, bo657232, bo657233, bo657238, bo657239, x657240, x657241, x657242, x657243, x657244, x657245, x657246, x657247⟩ := hp657215
          have hm657255 : q656915 ∈ P657248 := hsb657250 q656915 hm657199
          have hm657256 : q656916 ∈ P657248 := hsb657250 q656916 hm657200
          have hm657257 : q656917 ∈ P657248 := hsb657250 q656917 hm657201
          have hsb657258 : rSub P656913 P657248 := rSub_tr hsb657204 hsb657250
          have hfr657259 : rFr [q656916, q656915] P656913 F656914 F657249 := rFr_call hsb657204 hfr657208 hfr657251 (fun b hb hn => ⟨(nm_c (fun e => hn (e ▸ List.mem_cons_self)) (nm_c (fun e => hn (e ▸ (List.mem_cons_of_mem _ List.mem_cons_self))) nm_n)), (nm_c (fun e => hn (e ▸ List.mem_cons_self)) (nm_c (fun e => hn (e ▸ (List.mem_cons_of_mem _ List.mem_cons_self))) nm_n))⟩)
          have bo657234 := gB_any o657234
          have bo657236 := gB_any o657236
          have bo657237 := gB_any o657237
          change G _ _ _ _ _ _ _ _ _ _ _
          refine G_widen (cs' := (16 * (o657183.toInt - p656919.toInt) + 8 : Int).toNat + ((16 * (o657231.toInt - o657183.toInt)).toNat)) (sl' := (160 * (o657183.toInt - p656919.toInt) + 64 : Int).toNat + ((160 * (o657231.toInt - o657183.toInt)).toNat)) (by omega) (by omega) ?_
          have x657260 : p656919.toInt + 2 ≤ o657183.toInt := by have q := (prQ_le x657212 x657247); omega
          have x657261 : p656919.toInt + 2 ≤ o657231.toInt := by omega
          have x657262 : prQ o657232 (p656919.toInt + 3) o657231 := prP_q x657241 x657260 (by omega)
          exact G_vretA dr_cX14_row_108 rfl (show (16 * (o657183.toInt - p656919.toInt) + 8 : Int).toNat + ((16 * (o657231.toInt - o657183.toInt)).toNat) ≤ ((16 * (p656918.toInt - p656919.toInt)).toNat + 9) by omega) (show (160 * (o657183.toInt - p656919.toInt) + 64 : Int).toNat + ((160 * (o657231.toInt - o657183.toInt)).toNat) ≤ ((160 * (p656918.toInt - p656919.toInt)).toNat + 71) by omega) ⟨P657248, F657249, o657231, o657232, o657233, o657234, o657184, q657235, o657146, p656922, o657236, o657237, o657238, o657239, rfl, rfl, hsb657258, hfr657259, he657252, he657253, he657254, (by omega), (by omega), bo657231, bo657232, bo657233, bo657184, (gB_w bo657146' (by decide) (by decide)), (gB_w bv656999 (by decide) (by decide)), bo657238, bo657239, (by omega), (prP_le x657241 (by omega)), (by omega), x657243, x657244, x657245, x657246, (opP_of (gB_w bo657146' (by decide) (by decide))), (Or.inl (by omega)), (show nzK p656920 by unfold nzK; omega), ⟨by omega, Or.inr (by omega)⟩⟩
        · have r657263 : o657146.toInt = 0 := gj_eq hc657176 (show Int32.toInt 0 = 0 by decide)
          have bo657146' : gB o657146 0 0 := ⟨by omega, by omega⟩
          exact G_vretA dr_cX14_row_97 rfl (show (16 * (o657085.toInt - p656919.toInt) + 8 : Int).toNat ≤ ((16 * (p656918.toInt - p656919.toInt)).toNat + 9) by omega) (show (160 * (o657085.toInt - p656919.toInt) + 64 : Int).toNat ≤ ((160 * (p656918.toInt - p656919.toInt)).toNat + 71) by omega) ⟨P657149, F657166, o657085, o657086, o657087, o657088, o657031, q657089, o657146, p656922, o657090, o657091, o657092, o657093, rfl, rfl, hsb657160, hfr657174, he657173, he657169, he657170, (by omega), (by omega), bo657085, (gB_w bo657086' (by decide) (by decide)), bo657087, bo657031, (gB_w bo657146' (by decide) (by decide)), (gB_w bv656999 (by decide) (by decide)), bo657092, bo657093, (by have qa0 : Int32.toInt 0 = 0 := (by decide); omega), (prP_le x657095 (by omega)), (by have qa0 : Int32.toInt 0 = 0 := (by decide); omega), tp657175, x657098, x657099, x657100, (opP_of (gB_w bo657146' (by decide) (by decide))), (Or.inl (by omega)), (show nzK p656920 by unfold nzK; omega), ⟨by omega, Or.inr (by omega)⟩⟩
    · have r657264 : o657063.toInt ≠ 0 := gj_neq hc657065 (show Int32.toInt 0 = 0 by decide)
      have bo657063' : gB o657063 1 1 := ⟨by omega, by omega⟩
      refine G_aload_n 0 dr_cX14_row_50 rfl ?_
      refine Gw_callV (As := []) (gV_ok D I) (cp_653764_Reader_next l hl0 D I P657041 F657042 q656915 q656917 p656918 o657030 o657031 o657032 o657033 o656976 q657034 p656925 p656926 p656927 qo656928 qo656929 p656930 f656938 hm657047 hm657049 he657045 he657046 bp656918 bo657030 bo657031 bo657032 bo656976 bp656925 bp656926 bp656927 bp656930 bf656938 (by omega) (hsb657050 _ x656940) (hsb657050 _ x656941)) dr_cX14_row_51 ⟨wr_7_215, wr_1_32, wr_7_218, by decide, rfl, (Nat.le_of_ble_eq_true rfl), (Nat.le_of_ble_eq_true rfl)⟩ wr_7_217 wr_p_75 hm657047 he657045 rfl (show (16 * (o657030.toInt - p656919.toInt) + 0 : Int).toNat + 0 + ((16 * (p656918.toInt - o657030.toInt)).toNat) ≤ ((16 * (p656918.toInt - p656919.toInt)).toNat + 9) by first | omega | decide) (show (160 * (o657030.toInt - p656919.toInt) + 0 : Int).toNat + 0 + ((160 * (p656918.toInt - o657030.toInt)).toNat) ≤ ((160 * (p656918.toInt - p656919.toInt)).toNat + 71) by first | omega | decide) (Nat.le_of_ble_eq_true rfl) (fun r657268 w657269 dc657265 ds657266 hp657267 => ?_) (fun _ _ _ _ _ z => z.elim)
      obtain ⟨P657280, F657281, o657270, o657271, o657272, o657273, q657274, rfl, rfl, hsb657282, hfr657283, he657284, he657285, hdc, hds, bo657270, bo657271, bo657272, x657275, x657276, x657277, x657278, x657279⟩ := hp657267
      have hm657286 : q656915 ∈ P657280 := hsb657282 q656915 hm657047
      have hm657287 : q656916 ∈ P657280 := hsb657282 q656916 hm657048
      have hm657288 : q656917 ∈ P657280 := hsb657282 q656917 hm657049
      have hsb657289 : rSub P656913 P657280 := rSub_tr hsb657050 hsb657282
      have he657290 : F657281 q656916 = .inr (20, [.int p656931, .int p656922, .int p656933, .int p656934, .int p656935, .int p656936, .int p656937]) := (hfr657283 q656916 hm657048 (nm_c (rn_oo he657051 he657045 (by decide)) nm_n)).trans he657051
      have hfr657291 : rFr [q656916, q656915] P656913 F656914 F657281 := rFr_call hsb657050 hfr657052 hfr657283 (fun b hb hn => ⟨(nm_c (fun e => hn (e ▸ List.mem_cons_self)) (nm_c (fun e => hn (e ▸ (List.mem_cons_of_mem _ List.mem_cons_self))) nm_n)), (nm_c (fun e => hn (e ▸ (List.mem_cons_of_mem _ List.mem_cons_self))) nm_n)⟩)
      have bo657273 := gB_any o657273
      change G _ _ _ _ _ _ _ _ _ _ _
      refine G_widen (cs' := (16 * (o657030.toInt - p656919.toInt) + 0 : Int).toNat + 0 + ((16 * (o657270.toInt - o657030.toInt)).toNat)) (sl' := (160 * (o657030.toInt - p656919.toInt) + 0 : Int).toNat + 0 + ((160 * (o657270.toInt - o657030.toInt)).toNat)) (by omega) (by omega) ?_
      have x657292 : p656919.toInt ≤ o657270.toInt := by omega
      have x657293 : p656919.toInt + 2 ≤ o657030.toInt := by have q := (prQ_le x657056 (isK_1 x657064 (by omega))); omega
      have x657294 : p656919.toInt + 2 ≤ o657270.toInt := by omega
      have x657295 : prQ o657271 (p656919.toInt + 3) o657270 := prP_q x657276 x657293 (by omega)
      refine G_widen (cs' := (16 * (o657270.toInt - p656919.toInt) + 0 : Int).toNat) (sl' := (160 * (o657270.toInt - p656919.toInt) + 0 : Int).toNat) (by omega) (by omega) ?_
      clear he657045 he657046 bo657032 hm657047 hm657048 hm657049 hsb657050 he657051 hfr657052 bo657063 hsb657282 hfr657283; try clear r657061; try clear w657062; try clear dc657058; try clear ds657059; try clear hp657060; try clear r657268; try clear w657269; try clear dc657265; try clear ds657266; try clear hp657267
      refine G_aload_n 1 dr_cX14_row_54 rfl ?_
      refine G_bipush 20 dr_cX14_row_55 (by decide +kernel) ?_
      refine Gp_put 0 hm657287 he657290 dr_cX14_row_57 (gk_X15 D I) (Nat.le_of_ble_eq_true rfl) wr_9_179 rfl rfl rfl (Nat.le_of_ble_eq_true rfl) (fun F657296 e657297 n657298 => ?_)
      have he657299 : F657296 q656915 = .inr (19, [.ref q656917, .int p656918, .int o657270, .int o657271, .int o657272, .int o657273, .int o657031, .ref q657274, .int p656925, .int p656926, .int p656927, .ref qo656928, .ref qo656929, .int p656930]) := (n657298 q656915 (rn_oo he657284 he657290 (by decide))).trans he657284
      have he657300 : F657296 q656917 = .inl (I .byte, 8192, .inl f656938) := (n657298 q656917 (rn_ao he657285 he657290)).trans he657285
      have he657301 : F657296 q656916 = .inr (20, [.int 20, .int p656922, .int p656933, .int p656934, .int p656935, .int p656936, .int p656937]) := e657297
      have hfr657302 : rFr [q656916, q656915] P656913 F656914 F657296 := rFr_put' List.mem_cons_self hfr657291 n657298
      have tp657303 : tP I P657280 F657296 o657271 q657274 qo656929 qo656928 := tP_put x657278 he657290 (by decide) n657298
      exact G_vretA dr_cX14_row_60 rfl (show (16 * (o657270.toInt - p656919.toInt) + 0 : Int).toNat ≤ ((16 * (p656918.toInt - p656919.toInt)).toNat + 9) by omega) (show (160 * (o657270.toInt - p656919.toInt) + 0 : Int).toNat ≤ ((160 * (p656918.toInt - p656919.toInt)).toNat + 71) by omega) ⟨P657280, F657296, o657270, o657271, o657272, o657273, o657031, q657274, 20, p656922, p656933, p656934, p656936, p656937, rfl, rfl, hsb657289, hfr657302, he657301, he657299, he657300, (by omega), (by omega), bo657270, bo657271, bo657272, bo657031, (gB_w (gBl (show Int32.toInt 20 = 20 by decide)) (by decide) (by decide)), (gB_w bv656999 (by decide) (by decide)), bp656936, bp656937, (by have qa0 : Int32.toInt 20 = 20 := (by decide); omega), (prP_le x657276 (by omega)), (by have qa0 : Int32.toInt 20 = 20 := (by decide); omega), tp657303, x657279, x656944, x656945, (Or.inr (by decide)), (Or.inr (Or.inl (by decide))), (show nzK p656920 by unfold nzK; omega), ⟨by omega, Or.inr (by omega)⟩⟩
  · have r657304 : o656954.toInt ≠ 0 := gj_neq hc656956 (show Int32.toInt 0 = 0 by decide)
    have bo656954' : gB o656954 1 1 := ⟨by omega, by omega⟩
    refine G_aload_n 0 dr_cX14_row_9 rfl ?_
    refine Gw_callV (As := []) (gV_ok D I) (cp_653764_Reader_next l hl0 D I P656913 F656914 q656915 q656917 p656918 p656919 p656920 p656921 p656922 p656923 qo656924 p656925 p656926 p656927 qo656928 qo656929 p656930 f656938 hmq656915 hmq656917 heq656915 heq656917 bp656918 bp656919 bp656920 bp656921 bp656923 bp656925 bp656926 bp656927 bp656930 bf656938 (by omega) x656940 x656941) dr_cX14_row_10 ⟨wr_7_215, wr_1_32, wr_7_218, by decide, rfl, (Nat.le_of_ble_eq_true rfl), (Nat.le_of_ble_eq_true rfl)⟩ wr_7_217 wr_p_75 hmq656915 heq656915 rfl (show 0 + ((16 * (p656918.toInt - p656919.toInt)).toNat) ≤ ((16 * (p656918.toInt - p656919.toInt)).toNat + 9) by first | omega | decide) (show 0 + ((160 * (p656918.toInt - p656919.toInt)).toNat) ≤ ((160 * (p656918.toInt - p656919.toInt)).toNat + 71) by first | omega | decide) (Nat.le_of_ble_eq_true rfl) (fun r657308 w657309 dc657305 ds657306 hp657307 => ?_) (fun _ _ _ _ _ z => z.elim)
    obtain ⟨P657320, F657321, o657310, o657311, o657312, o657313, q657314, rfl, rfl, hsb657322, hfr657323, he657324, he657325, hdc, hds, bo657310, bo657311, bo657312, x657315, x657316, x657317, x657318, x657319⟩ := hp657307
    have hm657326 : q656915 ∈ P657320 := hsb657322 q656915 hmq656915
    have hm657327 : q656916 ∈ P657320 := hsb657322 q656916 hmq656916
    have hm657328 : q656917 ∈ P657320 := hsb657322 q656917 hmq656917
    have hsb657329 : rSub P656913 P657320 := rSub_tr (rSub_rf (P := P656913)) hsb657322
    have he657330 : F657321 q656916 = .inr (20, [.int p656931, .int p656932, .int p656933, .int p656934, .int p656935, .int p656936, .int p656937]) := (hfr657323 q656916 hmq656916 (nm_c (rn_oo heq656916 heq656915 (by decide)) nm_n)).trans heq656916
    have hfr657331 : rFr [q656915] P656913 F656914 F657321 := rFr_call (rSub_rf (P := P656913)) (rFr_rf (W := []) (P := P656913) (F := F656914)) hfr657323 (fun b hb hn => ⟨nm_n, (nm_c (fun e => hn (e ▸ List.mem_cons_self)) nm_n)⟩)
    have bo657313 := gB_any o657313
    change G _ _ _ _ _ _ _ _ _ _ _
    refine G_widen (cs' := (16 * (o657310.toInt - p656919.toInt)).toNat) (sl' := (160 * (o657310.toInt - p656919.toInt)).toNat) (by omega) (by omega) ?_
    have x657332 : p656919.toInt ≤ o657310.toInt := by omega
    have x657333 : p656919.toInt + 0 ≤ p656919.toInt := by omega
    have x657334 : p656919.toInt + 0 ≤ o657310.toInt := by omega
    have x657335 : prQ o657311 (p656919.toInt + 1) o657310 := prP_q x657316 x657333 (by omega)
    refine G_widen (cs' := (16 * (o657310.toInt - p656919.toInt) + 0 : Int).toNat) (sl' := (160 * (o657310.toInt - p656919.toInt) + 0 : Int).toNat) (by omega) (by omega) ?_
    clear bo656954 hsb657322 hfr657323; try clear r656952; try clear w656953; try clear dc656949; try clear ds656950; try clear hp656951; try clear r657308; try clear w657309; try clear dc657305; try clear ds657306; try clear hp657307
    refine G_aload_n 1 dr_cX14_row_13 rfl ?_
    refine G_bipush 22 dr_cX14_row_14 (by decide +kernel) ?_
    refine Gp_put 0 hm657327 he657330 dr_cX14_row_16 (gk_X15 D I) (Nat.le_of_ble_eq_true rfl) wr_9_179 rfl rfl rfl (Nat.le_of_ble_eq_true rfl) (fun F657336 e657337 n657338 => ?_)
    have he657339 : F657336 q656915 = .inr (19, [.ref q656917, .int p656918, .int o657310, .int o657311, .int o657312, .int o657313, .int p656920, .ref q657314, .int p656925, .int p656926, .int p656927, .ref qo656928, .ref qo656929, .int p656930]) := (n657338 q656915 (rn_oo he657324 he657330 (by decide))).trans he657324
    have he657340 : F657336 q656917 = .inl (I .byte, 8192, .inl f656938) := (n657338 q656917 (rn_ao he657325 he657330)).trans he657325
    have he657341 : F657336 q656916 = .inr (20, [.int 22, .int p656932, .int p656933, .int p656934, .int p656935, .int p656936, .int p656937]) := e657337
    have hfr657342 : rFr [q656916, q656915] P656913 F656914 F657336 := rFr_put hfr657331 n657338
    have tp657343 : tP I P657320 F657336 o657311 q657314 qo656929 qo656928 := tP_put x657318 he657330 (by decide) n657338
    refine G_aload_n 0 dr_cX14_row_19 rfl ?_
    refine G_aload_n 1 dr_cX14_row_20 rfl ?_
    refine G_iconst 0 dr_cX14_row_21 (by decide +kernel) ?_
    refine Gw_callV (As := [.ref q656916, .int 0]) (gV_ok D I) (cp_655979_Reader_operand l hl0 D I P657320 F657336 q656915 q656916 q656917 0 p656918 o657310 o657311 o657312 o657313 p656920 q657314 p656925 p656926 p656927 qo656928 qo656929 p656930 22 p656932 p656933 p656934 p656935 p656936 p656937 f656938 hm657326 hm657327 hm657328 he657339 he657341 he657340 (gB_w (gBl (show Int32.toInt 0 = 0 by decide)) (by decide) (by decide)) bp656918 bo657310 bo657311 bo657312 bp656920 bp656925 bp656926 bp656927 bp656930 (gB_w (gBl (show Int32.toInt 22 = 22 by decide)) (by decide) (by decide)) bp656932 bp656935 bp656936 bp656937 bf656938 (by have qa0 : Int32.toInt 22 = 22 := (by decide); omega) (hsb657329 _ x656940) (hsb657329 _ x656941) tp657343 x657319 x656944 x656945 (Or.inr (by decide))) dr_cX14_row_22 ⟨wr_10_89, wr_1_32, wr_10_92, by decide, rfl, (Nat.le_of_ble_eq_true rfl), (Nat.le_of_ble_eq_true rfl)⟩ wr_10_91 wr_p_89 hm657326 he657339 rfl (show (16 * (o657310.toInt - p656919.toInt) + 0 : Int).toNat + ((16 * (p656918.toInt - o657310.toInt)).toNat + 1) ≤ ((16 * (p656918.toInt - p656919.toInt)).toNat + 9) by first | omega | decide) (show (160 * (o657310.toInt - p656919.toInt) + 0 : Int).toNat + ((160 * (p656918.toInt - o657310.toInt)).toNat + 7) ≤ ((160 * (p656918.toInt - p656919.toInt)).toNat + 71) by first | omega | decide) (Nat.le_of_ble_eq_true rfl) (fun r657347 w657348 dc657344 ds657345 hp657346 => ?_) (fun _ qx657360 _ dc657358 ds657359 hx => by obtain ⟨P657356, F657357, rfl, rfl, hsb657349, hfr657350, hq657351, hqn657352, hwr657353, hdc657354, hds657355, x657361⟩ := hx; exact GT_outA rfl (show (16 * (o657310.toInt - p656919.toInt) + 0 : Int).toNat + dc657358 ≤ ((16 * (p656918.toInt - p656919.toInt)).toNat + 9) by omega) (show (160 * (o657310.toInt - p656919.toInt) + 0 : Int).toNat + ds657359 ≤ ((160 * (p656918.toInt - p656919.toInt)).toNat + 71) by omega) ⟨P657356, F657357, rfl, rfl, (rSub_tr hsb657329 hsb657349), (show rFr [q656916, q656915] P656913 F656914 F657357 from rFr_call hsb657329 hfr657342 hfr657350 (fun b hb hn => ⟨(nm_c (fun e => hn (e ▸ List.mem_cons_self)) (nm_c (fun e => hn (e ▸ (List.mem_cons_of_mem _ List.mem_cons_self))) nm_n)), nm_n⟩)), hq657351, (fun z => hqn657352 (hsb657329 _ z)), hwr657353, (by omega), (by omega), ⟨22, p656932, p656933, p656934, p656935, p656936, p656937, ((hfr657350 q656916 hm657327 nm_n).trans he657341), (gB_w (gBl (show Int32.toInt 22 = 22 by decide)) (by decide) (by decide)), bp656932, bp656935, bp656936, bp656937, (Or.inr (by decide)), x656944, x656945⟩⟩)
    obtain ⟨P657379, F657380, o657362, o657363, o657364, o657365, q657366, o657367, o657368, o657369, o657370, rfl, rfl, hsb657381, hfr657382, he657383, he657384, he657385, hdc, hds, bo657362, bo657363, bo657364, bo657369, bo657370, x657371, x657372, x657373, x657374, x657375, x657376, x657377, x657378⟩ := hp657346
    have hm657386 : q656915 ∈ P657379 := hsb657381 q656915 hm657326
    have hm657387 : q656916 ∈ P657379 := hsb657381 q656916 hm657327
    have hm657388 : q656917 ∈ P657379 := hsb657381 q656917 hm657328
    have hsb657389 : rSub P656913 P657379 := rSub_tr hsb657329 hsb657381
    have hfr657390 : rFr [q656916, q656915] P656913 F656914 F657380 := rFr_call hsb657329 hfr657342 hfr657382 (fun b hb hn => ⟨(nm_c (fun e => hn (e ▸ List.mem_cons_self)) (nm_c (fun e => hn (e ▸ (List.mem_cons_of_mem _ List.mem_cons_self))) nm_n)), (nm_c (fun e => hn (e ▸ List.mem_cons_self)) (nm_c (fun e => hn (e ▸ (List.mem_cons_of_mem _ List.mem_cons_self))) nm_n))⟩)
    have bo657365 := gB_any o657365
    have bo657367 := gB_any o657367
    have bo657368 := gB_any o657368
    change G _ _ _ _ _ _ _ _ _ _ _
    refine G_widen (cs' := (16 * (o657310.toInt - p656919.toInt) + 0 : Int).toNat + ((16 * (o657362.toInt - o657310.toInt)).toNat)) (sl' := (160 * (o657310.toInt - p656919.toInt) + 0 : Int).toNat + ((160 * (o657362.toInt - o657310.toInt)).toNat)) (by omega) (by omega) ?_
    have x657391 : p656919.toInt + 1 ≤ o657310.toInt := by have q := (prQ_le x657335 x657378); omega
    have x657392 : p656919.toInt + 1 ≤ o657362.toInt := by omega
    have x657393 : prQ o657363 (p656919.toInt + 2) o657362 := prP_q x657372 x657391 (by omega)
    exact G_vretA dr_cX14_row_25 rfl (show (16 * (o657310.toInt - p656919.toInt) + 0 : Int).toNat + ((16 * (o657362.toInt - o657310.toInt)).toNat) ≤ ((16 * (p656918.toInt - p656919.toInt)).toNat + 9) by omega) (show (160 * (o657310.toInt - p656919.toInt) + 0 : Int).toNat + ((160 * (o657362.toInt - o657310.toInt)).toNat) ≤ ((160 * (p656918.toInt - p656919.toInt)).toNat + 71) by omega) ⟨P657379, F657380, o657362, o657363, o657364, o657365, o657311, q657366, 22, p656932, o657367, o657368, o657369, o657370, rfl, rfl, hsb657389, hfr657390, he657383, he657384, he657385, (by omega), (by omega), bo657362, bo657363, bo657364, bo657311, (gB_w (gBl (show Int32.toInt 22 = 22 by decide)) (by decide) (by decide)), bp656932, bo657369, bo657370, (by have qa0 : Int32.toInt 22 = 22 := (by decide); omega), (prP_le x657372 (by omega)), (by have qa0 : Int32.toInt 22 = 22 := (by decide); omega), x657374, x657375, x657376, x657377, (Or.inr (by decide)), (Or.inr (Or.inr (by decide))), (isK_1 x656955 (by omega)), ⟨by omega, x657393⟩⟩
