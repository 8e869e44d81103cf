theorem dr_cJ7_copyOf_59c91_0 : decode cJ7_copyOf_59c91 0 = .ok (.iload_n 1, 1) := by decide +kernel
theorem dr_cJ7_copyOf_59c91_1 : decode cJ7_copyOf_59c91 1 = .ok (.aload_n 0, 1) := by decide +kernel
theorem dr_cJ7_copyOf_59c91_2 : decode cJ7_copyOf_59c91 2 = .ok (.arraylength, 1) := by decide +kernel
theorem dr_cJ7_copyOf_59c91_3 : decode cJ7_copyOf_59c91 3 = .ok (.if_icmp .ne 11, 3) := by decide +kernel
theorem dr_cJ7_copyOf_59c91_14 : decode cJ7_copyOf_59c91 14 = .ok (.iload_n 1, 1) := by decide +kernel
theorem dr_cJ7_copyOf_59c91_15 : decode cJ7_copyOf_59c91 15 = .ok (.newarray .int, 2) := by decide +kernel
theorem wr_1_95 : (Jvm.Cond.arrayClass Jvm.ClassFile.FieldType.int) ∈ gw := gw_1 95 rfl rfl
theorem dr_cJ7_copyOf_59c91_17 : decode cJ7_copyOf_59c91 17 = .ok (.astore_n 2, 1) := by decide +kernel
theorem dr_cJ7_copyOf_59c91_18 : decode cJ7_copyOf_59c91 18 = .ok (.aload_n 0, 1) := by decide +kernel
theorem dr_cJ7_copyOf_59c91_19 : decode cJ7_copyOf_59c91 19 = .ok (.iconst 0, 1) := by decide +kernel
theorem dr_cJ7_copyOf_59c91_20 : decode cJ7_copyOf_59c91 20 = .ok (.aload_n 2, 1) := by decide +kernel
theorem dr_cJ7_copyOf_59c91_21 : decode cJ7_copyOf_59c91 21 = .ok (.iconst 0, 1) := by decide +kernel
theorem dr_cJ7_copyOf_59c91_22 : decode cJ7_copyOf_59c91 22 = .ok (.aload_n 0, 1) := by decide +kernel
theorem dr_cJ7_copyOf_59c91_23 : decode cJ7_copyOf_59c91 23 = .ok (.arraylength, 1) := by decide +kernel
theorem dr_cJ7_copyOf_59c91_24 : decode cJ7_copyOf_59c91 24 = .ok (.iload_n 1, 1) := by decide +kernel
theorem dr_cJ7_copyOf_59c91_25 : decode cJ7_copyOf_59c91 25 = .ok (.invokestatic 304, 3) := by decide +kernel
theorem dr_cJ7_copyOf_59c91_28 : decode cJ7_copyOf_59c91 28 = .ok (.invokestatic 150, 3) := by decide +kernel
theorem dr_cJ7_copyOf_59c91_31 : decode cJ7_copyOf_59c91 31 = .ok (.aload_n 2, 1) := by decide +kernel
theorem dr_cJ7_copyOf_59c91_32 : decode cJ7_copyOf_59c91 32 = .ok (.areturn, 1) := by decide +kernel
theorem dr_cX14_goal_0 : decode cX14_goal 0 = .ok (.aload_n 0, 1) := by decide +kernel
theorem dr_cX14_goal_1 : decode cX14_goal 1 = .ok (.getfield 143, 3) := by decide +kernel
theorem wr_9_51 : (Jvm.Cond.fieldLink "SpillForgeModel$Reader" (143 : Nat) "SpillForgeModel$Reader" "goalN" "I") ∈ gw := gw_9 51 rfl rfl
theorem dr_cX14_goal_4 : decode cX14_goal 4 = .ok (.aload_n 0, 1) := by decide +kernel
theorem dr_cX14_goal_5 : decode cX14_goal 5 = .ok (.getfield 25, 3) := by decide +kernel
theorem wr_9_50 : (Jvm.Cond.fieldLink "SpillForgeModel$Reader" (25 : Nat) "SpillForgeModel$Reader" "goals" "[I") ∈ gw := gw_9 50 rfl rfl
theorem dr_cX14_goal_8 : decode cX14_goal 8 = .ok (.arraylength, 1) := by decide +kernel
theorem dr_cX14_goal_9 : decode cX14_goal 9 = .ok (.if_icmp .ne 37, 3) := by decide +kernel
theorem dr_cX14_goal_46 : decode cX14_goal 46 = .ok (.aload_n 0, 1) := by decide +kernel
theorem dr_cX14_goal_47 : decode cX14_goal 47 = .ok (.getfield 21, 3) := by decide +kernel
theorem wr_9_49 : (Jvm.Cond.fieldLink "SpillForgeModel$Reader" (21 : Nat) "SpillForgeModel$Reader" "goalPlaces" "[I") ∈ gw := gw_9 49 rfl rfl
theorem dr_cX14_goal_50 : decode cX14_goal 50 = .ok (.aload_n 0, 1) := by decide +kernel
theorem dr_cX14_goal_51 : decode cX14_goal 51 = .ok (.getfield 143, 3) := by decide +kernel
theorem dr_cX14_goal_54 : decode cX14_goal 54 = .ok (.aload_n 0, 1) := by decide +kernel
theorem dr_cX14_goal_55 : decode cX14_goal 55 = .ok (.getfield 47, 3) := by decide +kernel
theorem dr_cX14_goal_58 : decode cX14_goal 58 = .ok (.iastore, 1) := by decide +kernel
theorem dr_cX14_goal_59 : decode cX14_goal 59 = .ok (.aload_n 0, 1) := by decide +kernel
theorem dr_cX14_goal_60 : decode cX14_goal 60 = .ok (.iconst 3, 1) := by decide +kernel
theorem dr_cX14_goal_61 : decode cX14_goal 61 = .ok (.invokevirtual 152, 3) := by decide +kernel
theorem wr_9_93 : (Jvm.Cond.methodLink "SpillForgeModel$Reader" (152 : Nat) ({ cls := "SpillForgeModel$Reader", name := "want", desc := "(I)I" } : Jvm.MethodName)) ∈ gw := gw_9 93 rfl rfl
theorem wr_9_96 : (Jvm.Cond.code ({ cls := "SpillForgeModel$Reader", name := "want", desc := "(I)I" } : Jvm.MethodName) prog_17_method_11_code (3 : Nat) (Option.some Jvm.ClassFile.FieldType.int)) ∈ gw := gw_9 96 rfl rfl
theorem wr_9_95 : (Jvm.Cond.instanceMethod ({ cls := "SpillForgeModel$Reader", name := "want", desc := "(I)I" } : Jvm.MethodName)) ∈ gw := gw_9 95 rfl rfl
theorem wr_p_80 : Cond.selects "SpillForgeModel$Reader" ⟨"SpillForgeModel$Reader", "want", "(I)I"⟩ ⟨"SpillForgeModel$Reader", "want", "(I)I"⟩ ∈ gw := gw_p _ 80 rfl rfl rfl
theorem dr_cX14_goal_64 : decode cX14_goal 64 = .ok (.istore_n 1, 1) := by decide +kernel
theorem dr_cX14_goal_65 : decode cX14_goal 65 = .ok (.aload_n 0, 1) := by decide +kernel
theorem dr_cX14_goal_66 : decode cX14_goal 66 = .ok (.getfield 25, 3) := by decide +kernel
theorem dr_cX14_goal_69 : decode cX14_goal 69 = .ok (.aload_n 0, 1) := by decide +kernel
theorem dr_cX14_goal_70 : decode cX14_goal 70 = .ok (.getfield 143, 3) := by decide +kernel
theorem dr_cX14_goal_73 : decode cX14_goal 73 = .ok (.iload_n 1, 1) := by decide +kernel
theorem dr_cX14_goal_74 : decode cX14_goal 74 = .ok (.iastore, 1) := by decide +kernel
theorem dr_cX14_goal_75 : decode cX14_goal 75 = .ok (.aload_n 0, 1) := by decide +kernel
theorem dr_cX14_goal_76 : decode cX14_goal 76 = .ok (.dup, 1) := by decide +kernel
theorem dr_cX14_goal_77 : decode cX14_goal 77 = .ok (.getfield 143, 3) := by decide +kernel
theorem dr_cX14_goal_80 : decode cX14_goal 80 = .ok (.iconst 1, 1) := by decide +kernel
theorem dr_cX14_goal_81 : decode cX14_goal 81 = .ok (.iadd, 1) := by decide +kernel
theorem dr_cX14_goal_82 : decode cX14_goal 82 = .ok (.putfield 143, 3) := by decide +kernel
theorem dr_cX14_goal_85 : decode cX14_goal 85 = .ok (.iload_n 1, 1) := by decide +kernel
theorem dr_cX14_goal_86 : decode cX14_goal 86 = .ok (.ireturn, 1) := by decide +kernel
theorem dr_cX14_goal_12 : decode cX14_goal 12 = .ok (.aload_n 0, 1) := by decide +kernel
theorem dr_cX14_goal_13 : decode cX14_goal 13 = .ok (.aload_n 0, 1) := by decide +kernel
theorem dr_cX14_goal_14 : decode cX14_goal 14 = .ok (.getfield 25, 3) := by decide +kernel
theorem dr_cX14_goal_17 : decode cX14_goal 17 = .ok (.iconst 2, 1) := by decide +kernel
theorem dr_cX14_goal_18 : decode cX14_goal 18 = .ok (.aload_n 0, 1) := by decide +kernel
theorem dr_cX14_goal_19 : decode cX14_goal 19 = .ok (.getfield 143, 3) := by decide +kernel
theorem dr_cX14_goal_22 : decode cX14_goal 22 = .ok (.imul, 1) := by decide +kernel
theorem dr_cX14_goal_23 : decode cX14_goal 23 = .ok (.invokestatic 146, 3) := by decide +kernel
theorem wr_10_114 : (Jvm.Cond.methodLink "SpillForgeModel$Reader" (146 : Nat) ({ cls := "java/util/Arrays", name := "copyOf", desc := "([II)[I" } : Jvm.MethodName)) ∈ gw := gw_10 114 rfl rfl
theorem wr_10_116 : (Jvm.Cond.code ({ cls := "java/util/Arrays", name := "copyOf", desc := "([II)[I" } : Jvm.MethodName) prog_44_method_123_code (3 : Nat) (Option.some (Jvm.ClassFile.FieldType.array Jvm.ClassFile.FieldType.int))) ∈ gw := gw_10 116 rfl rfl
theorem wr_10_115 : (Jvm.Cond.static ({ cls := "java/util/Arrays", name := "copyOf", desc := "([II)[I" } : Jvm.MethodName)) ∈ gw := gw_10 115 rfl rfl
theorem dr_cX14_goal_26 : decode cX14_goal 26 = .ok (.putfield 25, 3) := by decide +kernel
theorem dr_cX14_goal_29 : decode cX14_goal 29 = .ok (.aload_n 0, 1) := by decide +kernel
theorem dr_cX14_goal_30 : decode cX14_goal 30 = .ok (.aload_n 0, 1) := by decide +kernel
theorem dr_cX14_goal_31 : decode cX14_goal 31 = .ok (.getfield 21, 3) := by decide +kernel
theorem dr_cX14_goal_34 : decode cX14_goal 34 = .ok (.iconst 2, 1) := by decide +kernel
theorem dr_cX14_goal_35 : decode cX14_goal 35 = .ok (.aload_n 0, 1) := by decide +kernel
theorem dr_cX14_goal_36 : decode cX14_goal 36 = .ok (.getfield 143, 3) := by decide +kernel
theorem dr_cX14_goal_39 : decode cX14_goal 39 = .ok (.imul, 1) := by decide +kernel
theorem dr_cX14_goal_40 : decode cX14_goal 40 = .ok (.invokestatic 146, 3) := by decide +kernel
theorem dr_cX14_goal_43 : decode cX14_goal 43 = .ok (.putfield 21, 3) := by decide +kernel
theorem dr_cX14_row_0 : decode cX14_row 0 = .ok (.aload_n 0, 1) := by decide +kernel
theorem dr_cX14_row_1 : decode cX14_row 1 = .ok (.ldc 179, 2) := by decide +kernel
theorem dr_cX14_row_3 : decode cX14_row 3 = .ok (.invokevirtual 132, 3) := by decide +kernel
theorem dr_cX14_row_6 : decode cX14_row 6 = .ok (.ifCond .eq 20, 3) := by decide +kernel
theorem dr_cX14_row_26 : decode cX14_row 26 = .ok (.aload_n 1, 1) := by decide +kernel
theorem dr_cX14_row_27 : decode cX14_row 27 = .ok (.aload_n 0, 1) := by decide +kernel
theorem dr_cX14_row_28 : decode cX14_row 28 = .ok (.iconst 2, 1) := by decide +kernel
theorem dr_cX14_row_29 : decode cX14_row 29 = .ok (.invokevirtual 152, 3) := by decide +kernel
theorem dr_cX14_row_32 : decode cX14_row 32 = .ok (.putfield 227, 3) := by decide +kernel
theorem wr_9_183 : (Jvm.Cond.fieldLink "SpillForgeModel$Reader" (227 : Nat) "SpillForgeModel$Row" "t" "I") ∈ gw := gw_9 183 rfl rfl
theorem dr_cX14_row_35 : decode cX14_row 35 = .ok (.aload_n 0, 1) := by decide +kernel
theorem dr_cX14_row_36 : decode cX14_row 36 = .ok (.ldc 229, 2) := by decide +kernel
theorem dr_cX14_row_38 : decode cX14_row 38 = .ok (.invokevirtual 173, 3) := by decide +kernel
theorem wr_9_137 : (Jvm.Cond.methodLink "SpillForgeModel$Reader" (173 : Nat) ({ cls := "SpillForgeModel$Reader", name := "want", desc := "(Ljava/lang/String;)V" } : Jvm.MethodName)) ∈ gw := gw_9 137 rfl rfl
theorem wr_9_140 : (Jvm.Cond.code ({ cls := "SpillForgeModel$Reader", name := "want", desc := "(Ljava/lang/String;)V" } : Jvm.MethodName) prog_17_method_10_code (2 : Nat) (Option.none : Option Jvm.ClassFile.FieldType)) ∈ gw := gw_9 140 rfl rfl
theorem wr_9_139 : (Jvm.Cond.instanceMethod ({ cls := "SpillForgeModel$Reader", name := "want", desc := "(Ljava/lang/String;)V" } : Jvm.MethodName)) ∈ gw := gw_9 139 rfl rfl
theorem wr_p_83 : Cond.selects "SpillForgeModel$Reader" ⟨"SpillForgeModel$Reader", "want", "(Ljava/lang/String;)V"⟩ ⟨"SpillForgeModel$Reader", "want", "(Ljava/lang/String;)V"⟩ ∈ gw := gw_p _ 83 rfl rfl rfl
theorem dr_cX14_row_41 : decode cX14_row 41 = .ok (.aload_n 0, 1) := by decide +kernel
theorem dr_cX14_row_42 : decode cX14_row 42 = .ok (.ldc 231, 2) := by decide +kernel
theorem dr_cX14_row_44 : decode cX14_row 44 = .ok (.invokevirtual 132, 3) := by decide +kernel
theorem dr_cX14_row_47 : decode cX14_row 47 = .ok (.ifCond .eq 14, 3) := by decide +kernel
theorem dr_cX14_row_61 : decode cX14_row 61 = .ok (.aload_n 0, 1) := by decide +kernel
theorem dr_cX14_row_62 : decode cX14_row 62 = .ok (.aload_n 1, 1) := by decide +kernel
theorem dr_cX14_row_63 : decode cX14_row 63 = .ok (.iconst 0, 1) := by decide +kernel
theorem dr_cX14_row_64 : decode cX14_row 64 = .ok (.invokevirtual 223, 3) := by decide +kernel
theorem wr_10_89 : (Jvm.Cond.methodLink "SpillForgeModel$Reader" (223 : Nat) ({ cls := "SpillForgeModel$Reader", name := "operand", desc := "(LSpillForgeModel$Row;Z)V" } : Jvm.MethodName)) ∈ gw := gw_10 89 rfl rfl
theorem wr_10_92 : (Jvm.Cond.code ({ cls := "SpillForgeModel$Reader", name := "operand", desc := "(LSpillForgeModel$Row;Z)V" } : Jvm.MethodName) prog_17_method_16_code (4 : Nat) (Option.none : Option Jvm.ClassFile.FieldType)) ∈ gw := gw_10 92 rfl rfl
theorem wr_10_91 : (Jvm.Cond.instanceMethod ({ cls := "SpillForgeModel$Reader", name := "operand", desc := "(LSpillForgeModel$Row;Z)V" } : Jvm.MethodName)) ∈ gw := gw_10 91 rfl rfl
theorem wr_p_89 : Cond.selects "SpillForgeModel$Reader" ⟨"SpillForgeModel$Reader", "operand", "(LSpillForgeModel$Row;Z)V"⟩ ⟨"SpillForgeModel$Reader", "operand", "(LSpillForgeModel$Row;Z)V"⟩ ∈ gw := gw_p _ 89 rfl rfl rfl
theorem dr_cX14_row_67 : decode cX14_row 67 = .ok (.aload_n 1, 1) := by decide +kernel
theorem dr_cX14_row_68 : decode cX14_row 68 = .ok (.aload_n 0, 1) := by decide +kernel
theorem dr_cX14_row_69 : decode cX14_row 69 = .ok (.getfield 38, 3) := by decide +kernel
theorem dr_cX14_row_72 : decode cX14_row 72 = .ok (.iconst 5, 1) := by decide +kernel
theorem dr_cX14_row_73 : decode cX14_row 73 = .ok (.if_icmp .ne 13, 3) := by decide +kernel
theorem dr_cX14_row_86 : decode cX14_row 86 = .ok (.iconst 0, 1) := by decide +kernel
theorem dr_cX14_row_87 : decode cX14_row 87 = .ok (.putfield 220, 3) := by decide +kernel
theorem wr_9_179 : (Jvm.Cond.fieldLink "SpillForgeModel$Reader" (220 : Nat) "SpillForgeModel$Row" "op" "I") ∈ gw := gw_9 179 rfl rfl
theorem dr_cX14_row_90 : decode cX14_row 90 = .ok (.aload_n 1, 1) := by decide +kernel
theorem dr_cX14_row_91 : decode cX14_row 91 = .ok (.getfield 220, 3) := by decide +kernel
theorem dr_cX14_row_94 : decode cX14_row 94 = .ok (.ifCond .ne 4, 3) := by decide +kernel
theorem dr_cX14_row_97 : decode cX14_row 97 = .ok (.return_, 1) := by decide +kernel
theorem dr_cX14_row_76 : decode cX14_row 76 = .ok (.aload_n 0, 1) := by decide +kernel
theorem dr_cX14_row_77 : decode cX14_row 77 = .ok (.getfield 11, 3) := by decide +kernel
theorem dr_cX14_row_80 : decode cX14_row 80 = .ok (.invokestatic 233, 3) := by decide +kernel
theorem wr_10_97 : (Jvm.Cond.code ({ cls := "SpillForgeModel", name := "operation", desc := "(Ljava/lang/String;)I" } : Jvm.MethodName) prog_14_method_1_code (4 : Nat) (Option.some Jvm.ClassFile.FieldType.int)) ∈ gw := gw_10 97 rfl rfl
theorem wr_10_96 : (Jvm.Cond.static ({ cls := "SpillForgeModel", name := "operation", desc := "(Ljava/lang/String;)I" } : Jvm.MethodName)) ∈ gw := gw_10 96 rfl rfl
theorem dr_cX14_row_83 : decode cX14_row 83 = .ok (.goto 4, 3) := by decide +kernel
theorem dr_cX14_row_98 : decode cX14_row 98 = .ok (.aload_n 0, 1) := by decide +kernel
theorem dr_cX14_row_99 : decode cX14_row 99 = .ok (.invokevirtual 35, 3) := by decide +kernel
theorem dr_cX14_row_102 : decode cX14_row 102 = .ok (.aload_n 0, 1) := by decide +kernel
theorem dr_cX14_row_103 : decode cX14_row 103 = .ok (.aload_n 1, 1) := by decide +kernel
theorem dr_cX14_row_104 : decode cX14_row 104 = .ok (.iconst 1, 1) := by decide +kernel
theorem dr_cX14_row_105 : decode cX14_row 105 = .ok (.invokevirtual 223, 3) := by decide +kernel
theorem dr_cX14_row_108 : decode cX14_row 108 = .ok (.return_, 1) := by decide +kernel
theorem dr_cX14_row_50 : decode cX14_row 50 = .ok (.aload_n 0, 1) := by decide +kernel
theorem dr_cX14_row_51 : decode cX14_row 51 = .ok (.invokevirtual 35, 3) := by decide +kernel
theorem dr_cX14_row_54 : decode cX14_row 54 = .ok (.aload_n 1, 1) := by decide +kernel
theorem dr_cX14_row_55 : decode cX14_row 55 = .ok (.bipush 20, 2) := by decide +kernel
theorem dr_cX14_row_57 : decode cX14_row 57 = .ok (.putfield 220, 3) := by decide +kernel
theorem dr_cX14_row_60 : decode cX14_row 60 = .ok (.return_, 1) := by decide +kernel
theorem dr_cX14_row_9 : decode cX14_row 9 = .ok (.aload_n 0, 1) := by decide +kernel
theorem dr_cX14_row_10 : decode cX14_row 10 = .ok (.invokevirtual 35, 3) := by decide +kernel
theorem dr_cX14_row_13 : decode cX14_row 13 = .ok (.aload_n 1, 1) := by decide +kernel
theorem dr_cX14_row_14 : decode cX14_row 14 = .ok (.bipush 22, 2) := by decide +kernel
theorem dr_cX14_row_16 : decode cX14_row 16 = .ok (.putfield 220, 3) := by decide +kernel
theorem dr_cX14_row_19 : decode cX14_row 19 = .ok (.aload_n 0, 1) := by decide +kernel
theorem dr_cX14_row_20 : decode cX14_row 20 = .ok (.aload_n 1, 1) := by decide +kernel
theorem dr_cX14_row_21 : decode cX14_row 21 = .ok (.iconst 0, 1) := by decide +kernel
theorem dr_cX14_row_22 : decode cX14_row 22 = .ok (.invokevirtual 223, 3) := by decide +kernel
theorem dr_cX14_row_25 : decode cX14_row 25 = .ok (.return_, 1) := by decide +kernel
abbrev ky_672681_Arrays_copyOf : gKey := (cJ7_copyOf_59c91, 3, "java/util/Arrays", (some (FieldType.array FieldType.int)), [], "copyOf", fun _ _ => True)
def pp_672681_Arrays_copyOf (D : va_G) (I : FieldType → ClassId) (P672673 : List Nat) (F672674 : Nat → va_E) (q672675 : Nat) (p672676 : Int32) (f672677 : Nat → Int32) (n672678 : Nat) : Option Value → va_W → Nat → Nat → Prop := fun r w dc ds => ∃ (P672711 : List Nat) (F672712 : Nat → va_E) (q672709 : Nat) (f672710 : Nat → Int32), r = some (.ref q672709) ∧ w = va_pl P672711 F672712 ∧ rSub P672673 P672711 ∧ rFr [] P672673 F672674 F672712 ∧ F672712 q672675 = .inl (I .int, n672678, .inl f672677) ∧ F672712 q672709 = .inl (I .int, p672676.toInt.toNat, .inl f672710) ∧ q672709 ∈ P672711 ∧ q672709 ∉ P672673 ∧ dc ≤ 1 ∧ ds ≤ p672676.toInt.toNat ∧ (p672676.toInt.toNat : Int) = p672676.toInt ∧ glC f672677 f672710 (n672678 : Int) ∧ glB f672677 f672710 ∧ tr_RArrays_copyOf4 p672676 f672677 n672678 f672710
set_option maxRecDepth 100000 in
set_option maxHeartbeats 4000000 in
theorem cp_672681_Arrays_copyOf (l : Launch) (hl0 : l.stackTraces = false) (D : va_G) (I : FieldType → ClassId) (P672673 : List Nat) (F672674 : Nat → va_E) (q672675 : Nat) (p672676 : Int32) (f672677 : Nat → Int32) (n672678 : Nat) (hmq672675 : q672675 ∈ P672673) (heq672675 : F672674 q672675 = .inl (I .int, n672678, .inl f672677)) (bp672676 : gB p672676 32 32768) (x672679 : (n672678 : Int) < p672676.toInt) (x672680 : ((n672678 : Int) ≤ 16777216)) : CtA (gV D I) l yJ7_copyOf_59c91 cJ7_copyOf_59c91 3 (some (FieldType.array FieldType.int)) 1 18 1 p672676.toInt.toNat [.ref q672675, .int p672676] (va_pl P672673 F672674) (pp_672681_Arrays_copyOf D I P672673 F672674 q672675 p672676 f672677 n672678) gNA := by
  refine CtA_ofF hl0 (by decide +kernel) (Nat.le_of_ble_eq_true rfl) ?_
  refine G_iload_n 1 dr_cJ7_copyOf_59c91_0 rfl ?_
  refine G_aload_n 0 dr_cJ7_copyOf_59c91_1 rfl ?_
  refine Gp_alen (Int32.ofNat n672678) 0 hmq672675 heq672675 dr_cJ7_copyOf_59c91_2 rfl rfl (G_nam fun z672682 hz672682 => ?_)
  have ez672682 : z672682.toInt = (n672678 : Nat) := gI_ofM hz672682 (by omega)
  have bz672682 : gB z672682 0 16777216 := ⟨by omega, by omega⟩
  refine G_icmp_ne 14 dr_cJ7_copyOf_59c91_3 (by decide +kernel) (fun hc672683 => ?_) (fun hc => absurd (show False by have := gC_eq hc; omega) not_false)
  have r672685 : p672676.toInt ≠ z672682.toInt := gC_ne hc672683
  refine G_iload_n 1 dr_cJ7_copyOf_59c91_14 rfl ?_
  refine G_newa 0 (p672676.toInt.toNat, .inl (fun _ => 0)) dr_cJ7_copyOf_59c91_15 rfl rfl (by intro C h; cases h) wr_1_95 (fun _ => ga_int _ _) (g_n0 (by omega)) rfl (show p672676.toInt.toNat * 4 ≤ 536870912 by omega) (show 0 + 1 ≤ 1 by first | omega | decide) (show 0 + p672676.toInt.toNat ≤ p672676.toInt.toNat by first | omega | decide) (fun q672686 => Gp_in (fun P672687 F672688 hq672689 hP672690 e672691 n672692 => ?_))
  refine G_widen (cs' := 1) (sl' := p672676.toInt.toNat) (by omega) (by omega) ?_
  have he672693 : F672688 q672675 = .inl (I .int, n672678, .inl f672677) := (n672692 q672675 (fun h => hq672689 (h ▸ hmq672675))).trans heq672675
  have he672694 : F672688 q672686 = .inl (I .int, p672676.toInt.toNat, .inl (fun _ => 0)) := e672691
  have hm672695 : q672675 ∈ P672687 := (hP672690 q672675).mpr (Or.inl hmq672675)
  have hm672696 : q672686 ∈ P672687 := (hP672690 q672686).mpr (Or.inr rfl)
  have hq672697 : q672686 ∉ P672673 := fun z => hq672689 ((rSub_rf (P := P672673)) q672686 z)
  have hfr672698 : rFr [] P672673 F672674 F672688 := rFr_new (rSub_rf (P := P672673)) hq672689 (rFr_rf (W := []) (P := P672673) (F := F672674)) n672692
  have hsb672699 : rSub P672673 P672687 := rSub_new (rSub_rf (P := P672673)) hP672690
  refine G_astore_n (L' := [(2, .ref q672686), (0, .ref q672675), (1, .int p672676)]) dr_cJ7_copyOf_59c91_17 (Nat.le_of_ble_eq_true rfl) rfl ?_
  refine G_aload_n 1 dr_cJ7_copyOf_59c91_18 rfl ?_
  refine G_iconst 0 dr_cJ7_copyOf_59c91_19 (by decide +kernel) ?_
  refine G_aload_n 0 dr_cJ7_copyOf_59c91_20 rfl ?_
  refine G_iconst 0 dr_cJ7_copyOf_59c91_21 (by decide +kernel) ?_
  refine G_aload_n 1 dr_cJ7_copyOf_59c91_22 rfl ?_
  refine Gp_alen (Int32.ofNat n672678) 0 hm672695 he672693 dr_cJ7_copyOf_59c91_23 rfl rfl (G_nam fun z672700 hz672700 => ?_)
  have ez672700 : z672700.toInt = (n672678 : Nat) := gI_ofM hz672700 (by omega)
  have bz672700 : gB z672700 0 16777216 := ⟨by omega, by omega⟩
  refine G_iload_n 2 dr_cJ7_copyOf_59c91_24 rfl ?_
  refine G_mmin dr_cJ7_copyOf_59c91_25 wr_8_31 wr_3_227 wr_1_6 wr_3_228 (Nat.le_of_ble_eq_true rfl) (Nat.le_of_ble_eq_true rfl) (show 1 ≤ 1 by first | omega | decide) (show p672676.toInt.toNat ≤ p672676.toInt.toNat by first | omega | decide) (G_nam fun z672701 hz672701 => ?_)
  have ez672701 : z672700.toInt ≥ z672701.toInt ∧ p672676.toInt ≥ z672701.toInt ∧ (z672701.toInt = z672700.toInt ∨ z672701.toInt = p672676.toInt) := by have := gI_min hz672701; omega
  have bz672701 : gB z672701 0 32768 := ⟨by omega, by omega⟩
  refine Gp_copyp 0 hm672695 hm672696 he672693 he672694 dr_cJ7_copyOf_59c91_28 wr_8_32 wr_5_113 wr_5_112 wr_1_34 rfl rfl (fun _ => rfl) (by decide) (by decide) (by omega) (by have qa0 : Int32.toInt 0 = 0 := (by decide); omega) (by have qa0 : Int32.toInt 0 = 0 := (by decide); omega) (Nat.le_of_ble_eq_true rfl) (Nat.le_of_ble_eq_true rfl) (fun F672702 e672703 n672704 => ?_)
  obtain ⟨f672705, hf672705⟩ : ∃ z, z = va_cpy f672677 (fun _ => 0) (0 : Int32).toNatClampNeg (0 : Int32).toNatClampNeg z672701.toNatClampNeg := ⟨_, rfl⟩
  rw [← hf672705] at e672703
  have he672706 : F672702 q672675 = .inl (I .int, n672678, .inl f672677) := (n672704 q672675 (fun h => hq672697 (h ▸ hmq672675))).trans he672693
  have he672707 : F672702 q672686 = .inl (I .int, p672676.toInt.toNat, .inl f672705) := e672703
  have hfr672708 : rFr [] P672673 F672674 F672702 := rFr_newp hq672697 hfr672698 n672704
  refine G_aload_n 0 dr_cJ7_copyOf_59c91_31 rfl ?_
  exact G_aretA (FieldType.array FieldType.int) dr_cJ7_copyOf_59c91_32 rfl (by first | exact Or.inl ⟨_, rfl⟩ | exact Or.inr ⟨_, rfl⟩) (Or.inr ⟨_, rfl⟩) (Nat.le_of_ble_eq_true rfl) (show p672676.toInt.toNat ≤ p672676.toInt.toNat by omega) ⟨P672687, F672702, q672686, f672705, rfl, rfl, hsb672699, hfr672708, he672706, he672707, hm672696, hq672697, (Nat.le_of_ble_eq_true rfl), (by omega), (by omega), (glC_cpy hf672705 (by decide) (by decide) (by omega)), (glB_cpy hf672705), (fun R c1 => c1 z672682 z672700 z672701 f672705 ez672682 r672685 ez672700 ez672701 hf672705)⟩
/- tr_RReader_goal: a.0...at, a.0...kind, a.0...place, a.0...value, a.0...goalN, a.0.goalPlaces.#, a.0.goalPlaces.[], a.0.goals.#, a.0.goals.[] -/
def tr_RReader_goal (a0_n : Int32) (a0_at : Int32) (a0_kind : Int32) (a0_place : Int32) (a0_value : Int32) (a0_goalN : Int32) (a0_t_v : Nat → Int32) (p : Nat → Int32) (p2 : Nat) (p3 : Nat → Int32) (p4 : Nat) (o1 : Int32) (o2 : Int32) (o3 : Int32) (o4 : Int32) (o5 : Int32) (o6 : Nat) (o7 : Nat → Int32) (o8 : Nat) (o9 : Nat → Int32) (o10 : gTx) : Prop := ∀ R : (Int32) → (Int32) → (Int32) → (Int32) → (Int32) → (Nat) → (Nat → Int32) → (Nat) → (Nat → Int32) → (gTx) → Prop,
  (∀ (x1 : Int32) (x2 : Nat → Int32) (x3 : gTx) (x4 : Int32) (x5 : Int32) (x6 : Int32) (x7 : Int32) (x8 : Nat → Int32) (x9 : Int32), x1.toInt = (p4 : Nat) → a0_goalN.toInt ≠ x1.toInt → x2 = upd p a0_goalN.toNatClampNeg a0_place → gB x4 0 8192 → gB x5 0 6 → gB x6 0 8192 → tr_RReader_want2 (3 : Int32) a0_n a0_at a0_kind a0_value a0_t_v x4 x5 x6 x7 x3 → x8 = upd p3 a0_goalN.toNatClampNeg a0_value → x9.toInt = a0_goalN.toInt + 1 → R x4 x5 x6 x7 x9 p2 x2 p4 x8 x3) →
  (∀ (x1 : Int32) (x2 : Int32) (x3 : Nat → Int32) (x4 : Int32) (x5 : Nat → Int32) (x6 : Nat → Int32) (x7 : gTx) (x8 : Int32) (x9 : Int32) (x10 : Int32) (x11 : Int32) (x12 : Nat → Int32) (x13 : Int32), x1.toInt = (p4 : Nat) → a0_goalN.toInt = x1.toInt → x2.toInt = 2 * a0_goalN.toInt → tr_RArrays_copyOf4 x2 p3 p4 x3 → x4.toInt = 2 * a0_goalN.toInt → tr_RArrays_copyOf4 x4 p p2 x5 → x6 = upd x5 a0_goalN.toNatClampNeg a0_place → gB x8 0 8192 → gB x9 0 6 → gB x10 0 8192 → tr_RReader_want2 (3 : Int32) a0_n a0_at a0_kind a0_value a0_t_v x8 x9 x10 x11 x7 → x12 = upd x3 a0_goalN.toNatClampNeg a0_value → x13.toInt = a0_goalN.toInt + 1 → R x8 x9 x10 x11 x13 x4.toInt.toNat x6 x2.toInt.toNat x12 x7) →
  R o1 o2 o3 o4 o5 o6 o7 o8 o9 o10
/- tx_RReader_goal: throws -/
def tx_RReader_goal (a0_kind : Int32) (a0_goalN : Int32) (p : Nat → Int32) (p2 : Nat) (p3 : Nat → Int32) (p4 : Nat) : Prop := ∀ R : Prop,
  (∀ (x1 : Int32), x1.toInt = (p4 : Nat) → a0_goalN.toInt ≠ x1.toInt → tx_RReader_want2 (3 : Int32) a0_kind → R) →
  (∀ (x1 : Int32) (x2 : Int32) (x3 : Nat → Int32) (x4 : Int32) (x5 : Nat → Int32), x1.toInt = (p4 : Nat) → a0_goalN.toInt = x1.toInt → x2.toInt = 2 * a0_goalN.toInt → tr_RArrays_copyOf4 x2 p3 p4 x3 → x4.toInt = 2 * a0_goalN.toInt → tr_RArrays_copyOf4 x4 p p2 x5 → tx_RReader_want2 (3 : Int32) a0_kind → R) →
  R
abbrev ky_672591_Reader_goal : gKey := (cX14_goal, 2, "SpillForgeModel$Reader", (some FieldType.int), [], "goal", fun _ _ => True)
def pp_672591_Reader_goal (D : va_G) (I : FieldType → ClassId) (P672557 : List Nat) (F672558 : Nat → va_E) (q672559 : Nat) (q672560 : Nat) (q672561 : Nat) (q672562 : Nat) (p672563 : Int32) (p672564 : Int32) (p672565 : Int32) (p672566 : Int32) (p672567 : Int32) (p672568 : Int32) (qo672569 : Nat) (p672570 : Int32) (p672571 : Int32) (p672572 : Int32) (p672573 : Int32) (f672574 : Nat → Int32) (f672575 : Nat → Int32) (n672576 : Nat) (f672577 : Nat → Int32) (n672578 : Nat) (xt672579 : gTx) : Option Value → va_W → Nat → Nat → Prop := fun r w dc ds => ∃ (P672924 : List Nat) (F672925 : Nat → va_E) (o672912 : Int32) (o672913 : Int32) (o672914 : Int32) (o672915 : Int32) (q672916 : Nat) (o672917 : Int32) (q672918 : Nat) (n672919 : Nat) (f672920 : Nat → Int32) (q672921 : Nat) (n672922 : Nat) (f672923 : Nat → Int32) (xt672926 : gTx), r = some (.int p672567) ∧ w = va_pl P672924 F672925 ∧ rSub P672557 P672924 ∧ rFr [q672562, q672561, q672559] P672557 F672558 F672925 ∧ F672925 q672918 = .inl (I .int, n672919, .inl f672920) ∧ F672925 q672921 = .inl (I .int, n672922, .inl f672923) ∧ F672925 q672559 = .inr (19, [.ref q672560, .int p672563, .int o672912, .int o672913, .int o672914, .int o672915, .int p672565, .ref q672916, .int p672570, .int p672571, .int p672572, .ref q672918, .ref q672921, .int o672917]) ∧ F672925 q672560 = .inl (I .byte, 8192, .inl f672574) ∧ q672918 ∈ P672924 ∧ (q672918 = q672561 ∨ q672918 ∉ P672557) ∧ q672921 ∈ P672924 ∧ (q672921 = q672562 ∨ q672921 ∉ P672557) ∧ dc ≤ (16 * (o672912.toInt - p672564.toInt)).toNat + 2 ∧ ds ≤ (160 * (o672912.toInt - p672564.toInt)).toNat + 4 * (n672922 - n672578) ∧ gB o672912 0 8192 ∧ gB o672913 0 6 ∧ gB o672914 0 8192 ∧ gB o672917 1 1000000 ∧ p672564.toInt ≤ o672912.toInt ∧ prP o672913 p672564 o672912 ∧ o672912.toInt ≤ p672563.toInt ∧ tP I P672924 F672925 o672913 q672916 q672921 q672918 xt672926 ∧ vP o672913 o672915 ∧ vP 3 p672567 ∧ p672565.toInt = 3 ∧ (n672922 : Int) ≤ 2 * (n672578 : Int) ∧ q672921 ≠ q672918 ∧ glC f672577 f672923 p672573.toInt ∧ glL f672923 p672573 p672567 ∧ glP f672920 ∧ (n672922 : Int) = (n672919 : Int) ∧ o672917.toInt = p672573.toInt + 1 ∧ o672917.toInt ≤ (n672922 : Int) ∧ 16 ≤ (n672922 : Int) ∧ (n672922 : Int) ≤ 2 * o672917.toInt + 16 ∧ (n672578 : Int) ≤ (n672922 : Int) ∧ tr_RReader_goal p672563 p672564 p672565 p672566 p672567 p672573 f672574 f672575 n672576 f672577 n672578 o672912 o672913 o672914 o672915 o672917 n672919 f672920 n672922 f672923 xt672926
def xp_672591_Reader_goal (D : va_G) (I : FieldType → ClassId) (P672557 : List Nat) (F672558 : Nat → va_E) (q672559 : Nat) (q672560 : Nat) (q672561 : Nat) (q672562 : Nat) (p672563 : Int32) (p672564 : Int32) (p672565 : Int32) (p672566 : Int32) (p672567 : Int32) (p672568 : Int32) (qo672569 : Nat) (p672570 : Int32) (p672571 : Int32) (p672572 : Int32) (p672573 : Int32) (f672574 : Nat → Int32) (f672575 : Nat → Int32) (n672576 : Nat) (f672577 : Nat → Int32) (n672578 : Nat) (xt672579 : gTx) : String → Nat → va_W → Nat → Nat → Prop := fun E q w dc ds => ∃ (P672928 : List Nat) (F672927 : Nat → va_E), E = "SpillForgeModel$Wrong" ∧ w = va_pl P672928 F672927 ∧ rSub P672557 P672928 ∧ rFr [q672561, q672559] P672557 F672558 F672927 ∧ q ∈ P672928 ∧ q ∉ P672557 ∧ wrF F672927 q ∧ dc ≤ (16 * (p672563.toInt - p672564.toInt)).toNat + 3 ∧ ds ≤ (160 * (p672563.toInt - p672564.toInt)).toNat + 4 * n672578 + 7 ∧ tx_RReader_goal p672565 p672573 f672575 n672576 f672577 n672578
set_option maxRecDepth 100000 in
set_option maxHeartbeats 4000000 in
theorem cp_672591_Reader_goal (l : Launch) (hl0 : l.stackTraces = false) (D : va_G) (I : FieldType → ClassId) (P672557 : List Nat) (F672558 : Nat → va_E) (q672559 : Nat) (q672560 : Nat) (q672561 : Nat) (q672562 : Nat) (p672563 : Int32) (p672564 : Int32) (p672565 : Int32) (p672566 : Int32) (p672567 : Int32) (p672568 : Int32) (qo672569 : Nat) (p672570 : Int32) (p672571 : Int32) (p672572 : Int32) (p672573 : Int32) (f672574 : Nat → Int32) (f672575 : Nat → Int32) (n672576 : Nat) (f672577 : Nat → Int32) (n672578 : Nat) (xt672579 : gTx) (hmq672559 : q672559 ∈ P672557) (hmq672560 : q672560 ∈ P672557) (hmq672561 : q672561 ∈ P672557) (hmq672562 : q672562 ∈ P672557) (heq672559 : F672558 q672559 = .inr (19, [.ref q672560, .int p672563, .int p672564, .int p672565, .int p672566, .int p672567, .int p672568, .ref qo672569, .int p672570, .int p672571, .int p672572, .ref q672561, .ref q672562, .int p672573])) (heq672560 : F672558 q672560 = .inl (I .byte, 8192, .inl f672574)) (heq672561 : F672558 q672561 = .inl (I .int, n672576, .inl f672575)) (heq672562 : F672558 q672562 = .inl (I .int, n672578, .inl f672577)) (hneq672560q672561 : q672560 ≠ q672561) (hneq672560q672562 : q672560 ≠ q672562) (hneq672561q672562 : q672561 ≠ q672562) (bp672563 : gB p672563 0 8192) (bp672564 : gB p672564 0 8192) (bp672565 : gB p672565 0 6) (bp672566 : gB p672566 0 8192) (bp672568 : gB p672568 0 6) (bp672570 : gB p672570 (-1) 8192) (bp672571 : gB p672571 0 4) (bp672572 : gB p672572 0 1000000) (bp672573 : gB p672573 0 1000000) (bf672574 : gF f672574 (-128) 127) (x672580 : p672564.toInt ≤ p672563.toInt) (x672581 : tP I P672557 F672558 p672565 qo672569 q672562 q672561 xt672579) (x672582 : vP p672565 p672567) (x672583 : (n672578 : Int) = (n672576 : Int)) (x672584 : p672573.toInt ≤ (n672578 : Int)) (x672585 : 16 ≤ (n672578 : Int)) (x672586 : (n672578 : Int) ≤ 2 * p672573.toInt + 16) (x672587 : p672573.toInt ≤ 16000) (x672588 : glP f672575) (x672589 : ((n672576 : Int) ≤ 16777216)) (x672590 : ((n672578 : Int) ≤ 16777216)) : CtA (gV D I) l yX14_goal cX14_goal 2 (some FieldType.int) 9 199 ((16 * (p672563.toInt - p672564.toInt)).toNat + 3) ((160 * (p672563.toInt - p672564.toInt)).toNat + 4 * n672578 + 7) [.ref q672559] (va_pl P672557 F672558) (pp_672591_Reader_goal D I P672557 F672558 q672559 q672560 q672561 q672562 p672563 p672564 p672565 p672566 p672567 p672568 qo672569 p672570 p672571 p672572 p672573 f672574 f672575 n672576 f672577 n672578 xt672579) (xp_672591_Reader_goal D I P672557 F672558 q672559 q672560 q672561 q672562 p672563 p672564 p672565 p672566 p672567 p672568 qo672569 p672570 p672571 p672572 p672573 f672574 f672575 n672576 f672577 n672578 xt672579) := by
  refine CtA_of hl0 (by decide) (Nat.le_of_ble_eq_true rfl) ?_
  have bp672567 := gB_any p672567
  refine G_aload_n 0 dr_cX14_goal_0 rfl ?_
  refine Gp_get 13 hmq672559 heq672559 dr_cX14_goal_1 (gk_X14 D I) (Nat.le_of_ble_eq_true rfl) wr_9_51 rfl ?_
  refine G_aload_n 0 dr_cX14_goal_4 rfl ?_
  refine Gp_get 12 hmq672559 heq672559 dr_cX14_goal_5 (gk_X14 D I) (Nat.le_of_ble_eq_true rfl) wr_9_50 rfl ?_
  refine Gp_alen (Int32.ofNat n672578) 0 hmq672562 heq672562 dr_cX14_goal_8 rfl rfl (G_nam fun z672592 hz672592 => ?_)
  have ez672592 : z672592.toInt = (n672578 : Nat) := gI_ofM hz672592 (by omega)
  have bz672592 : gB z672592 0 16777216 := ⟨by omega, by omega⟩
  refine G_icmp_ne 46 dr_cX14_goal_9 (by decide +kernel) (fun hc672593 => ?_) (fun hc672593 => ?_)
  · have r672594 : p672573.toInt ≠ z672592.toInt := gC_ne hc672593
    refine G_aload_n 0 dr_cX14_goal_46 rfl ?_
    refine Gp_get 11 hmq672559 heq672559 dr_cX14_goal_47 (gk_X14 D I) (Nat.le_of_ble_eq_true rfl) wr_9_49 rfl ?_
    refine G_aload_n 0 dr_cX14_goal_50 rfl ?_
    refine Gp_get 13 hmq672559 heq672559 dr_cX14_goal_51 (gk_X14 D I) (Nat.le_of_ble_eq_true rfl) wr_9_51 rfl ?_
    refine G_aload_n 0 dr_cX14_goal_54 rfl ?_
    refine Gp_get 4 hmq672559 heq672559 dr_cX14_goal_55 (gk_X14 D I) (Nat.le_of_ble_eq_true rfl) wr_9_40 rfl ?_
    refine Gp_iast 0 hmq672561 heq672561 dr_cX14_goal_58 rfl (gB_inr (by omega) (by omega)) (fun F672595 e672596 n672597 => ?_)
    obtain ⟨f672598, hf672598⟩ : ∃ z, z = upd f672575 p672573.toNatClampNeg p672566 := ⟨_, rfl⟩
    rw [← hf672598] at e672596
    have he672599 : F672595 q672559 = .inr (19, [.ref q672560, .int p672563, .int p672564, .int p672565, .int p672566, .int p672567, .int p672568, .ref qo672569, .int p672570, .int p672571, .int p672572, .ref q672561, .ref q672562, .int p672573]) := (n672597 q672559 (rn_oa heq672559 heq672561)).trans heq672559
    have he672600 : F672595 q672560 = .inl (I .byte, 8192, .inl f672574) := (n672597 q672560 hneq672560q672561).trans heq672560
    have he672601 : F672595 q672562 = .inl (I .int, n672578, .inl f672577) := (n672597 q672562 (Ne.symm hneq672561q672562)).trans heq672562
    have he672602 : F672595 q672561 = .inl (I .int, n672576, .inl f672598) := e672596
    have hfr672603 : rFr [q672561] P672557 F672558 F672595 := rFr_put (rFr_rf (W := []) (P := P672557) (F := F672558)) n672597
    have tp672604 : tP I P672557 F672595 p672565 qo672569 q672562 q672561 xt672579 := tP_pa x672581 heq672561 (Or.inr rfl) n672597
    refine G_aload_n 0 dr_cX14_goal_59 rfl ?_
    refine G_iconst 3 dr_cX14_goal_60 (by decide +kernel) ?_
    refine Gw_callV (As := [.int 3]) (gV_ok D I) (cp_671789_Reader_want l hl0 D I P672557 F672595 q672559 q672560 3 p672563 p672564 p672565 p672566 p672567 p672568 qo672569 p672570 p672571 p672572 q672561 q672562 p672573 f672574 xt672579 hmq672559 hmq672560 he672599 he672600 (gB_w (gBl (show Int32.toInt 3 = 3 by decide)) (by decide) (by decide)) bp672563 bp672564 bp672565 bp672566 bp672568 bp672570 bp672571 bp672572 bp672573 bf672574 (by omega) hmq672562 hmq672561 tp672604 x672582) dr_cX14_goal_61 ⟨wr_9_93, wr_1_32, wr_9_96, by decide, rfl, (Nat.le_of_ble_eq_true rfl), (Nat.le_of_ble_eq_true rfl)⟩ wr_9_95 wr_p_80 hmq672559 he672599 rfl (show 0 + ((16 * (p672563.toInt - p672564.toInt)).toNat + 1) ≤ ((16 * (p672563.toInt - p672564.toInt)).toNat + 3) by first | omega | decide) (show 0 + ((160 * (p672563.toInt - p672564.toInt)).toNat + 7) ≤ ((160 * (p672563.toInt - p672564.toInt)).toNat + 4 * n672578 + 7) by first | omega | decide) (Nat.le_of_ble_eq_true rfl) (fun r672608 w672609 dc672605 ds672606 hp672607 => ?_) (fun _ qx672621 _ dc672619 ds672620 hx => by obtain ⟨P672617, F672618, rfl, rfl, hsb672610, hfr672611, hq672612, hqn672613, hwr672614, hdc672615, hds672616, ht672622⟩ := hx; exact GT_outA rfl (show 0 + dc672619 ≤ ((16 * (p672563.toInt - p672564.toInt)).toNat + 3) by omega) (show 0 + ds672620 ≤ ((160 * (p672563.toInt - p672564.toInt)).toNat + 4 * n672578 + 7) by omega) ⟨P672617, F672618, rfl, rfl, (rSub_tr (rSub_rf (P := P672557)) hsb672610), (rFr_v (show rFr [q672561] P672557 F672558 F672618 from rFr_call (rSub_rf (P := P672557)) hfr672603 hfr672611 (fun b hb hn => ⟨(nm_c (fun e => hn (e ▸ List.mem_cons_self)) nm_n), nm_n⟩)) (fun b hn => (nm_c (fun e => hn (e ▸ List.mem_cons_self)) nm_n))), hq672612, (fun z => hqn672613 ((rSub_rf (P := P672557)) _ z)), hwr672614, (by omega), (by omega), (fun R c1 c2 => c1 z672592 ez672592 r672594 ht672622)⟩)
    obtain ⟨P672637, F672638, o672623, o672624, o672625, o672626, q672627, xt672636, rfl, rfl, hsb672639, hfr672640, he672641, he672642, hdc, hds, bo672623, bo672624, bo672625, x672628, x672629, x672630, x672631, x672632, x672633, x672634, ht672635⟩ := hp672607
    have hm672643 : q672559 ∈ P672637 := hsb672639 q672559 hmq672559
    have hm672644 : q672560 ∈ P672637 := hsb672639 q672560 hmq672560
    have hm672645 : q672561 ∈ P672637 := hsb672639 q672561 hmq672561
    have hm672646 : q672562 ∈ P672637 := hsb672639 q672562 hmq672562
    have hsb672647 : rSub P672557 P672637 := rSub_tr (rSub_rf (P := P672557)) hsb672639
    have he672648 : F672638 q672561 = .inl (I .int, n672576, .inl f672598) := (hfr672640 q672561 hmq672561 (nm_c (rn_ao he672602 he672599) nm_n)).trans he672602
    have he672649 : F672638 q672562 = .inl (I .int, n672578, .inl f672577) := (hfr672640 q672562 hmq672562 (nm_c (rn_ao he672601 he672599) nm_n)).trans he672601
    have hfr672650 : rFr [q672561, q672559] P672557 F672558 F672638 := rFr_call (rSub_rf (P := P672557)) hfr672603 hfr672640 (fun b hb hn => ⟨(nm_c (fun e => hn (e ▸ List.mem_cons_self)) nm_n), (nm_c (fun e => hn (e ▸ (List.mem_cons_of_mem _ List.mem_cons_self))) nm_n)⟩)
    have bo672626 := gB_any o672626
    rw [show Int32.toInt 3 = 3 from by decide] at x672634
    change G _ _ _ _ _ _ _ (.int p672567 :: _) _ _ _
    refine G_widen (cs' := (16 * (o672623.toInt - p672564.toInt)).toNat) (sl' := (160 * (o672623.toInt - p672564.toInt)).toNat) (by omega) (by omega) ?_
    refine G_istore_n (L' := [(1, .int p672567), (0, .ref q672559)]) dr_cX14_goal_64 (Nat.le_of_ble_eq_true rfl) rfl ?_
    refine G_aload_n 1 dr_cX14_goal_65 rfl ?_
    refine Gp_get 12 hm672643 he672641 dr_cX14_goal_66 (gk_X14 D I) (Nat.le_of_ble_eq_true rfl) wr_9_50 rfl ?_
    refine G_aload_n 1 dr_cX14_goal_69 rfl ?_
    refine Gp_get 13 hm672643 he672641 dr_cX14_goal_70 (gk_X14 D I) (Nat.le_of_ble_eq_true rfl) wr_9_51 rfl ?_
    refine G_iload_n 0 dr_cX14_goal_73 rfl ?_
    refine Gp_iast 0 hm672646 he672649 dr_cX14_goal_74 rfl (gB_inr (by omega) (by omega)) (fun F672651 e672652 n672653 => ?_)
    obtain ⟨f672654, hf672654⟩ : ∃ z, z = upd f672577 p672573.toNatClampNeg p672567 := ⟨_, rfl⟩
    rw [← hf672654] at e672652
    have he672655 : F672651 q672561 = .inl (I .int, n672576, .inl f672598) := (n672653 q672561 hneq672561q672562).trans he672648
    have he672656 : F672651 q672559 = .inr (19, [.ref q672560, .int p672563, .int o672623, .int o672624, .int o672625, .int o672626, .int p672565, .ref q672627, .int p672570, .int p672571, .int p672572, .ref q672561, .ref q672562, .int p672573]) := (n672653 q672559 (rn_oa he672641 he672649)).trans he672641
    have he672657 : F672651 q672560 = .inl (I .byte, 8192, .inl f672574) := (n672653 q672560 hneq672560q672562).trans he672642
    have he672658 : F672651 q672562 = .inl (I .int, n672578, .inl f672654) := e672652
    have hfr672659 : rFr [q672562, q672561, q672559] P672557 F672558 F672651 := rFr_put hfr672650 n672653
    have tp672660 : tP I P672637 F672651 o672624 q672627 q672562 q672561 xt672636 := tP_pa x672631 he672649 (Or.inl rfl) n672653
    refine G_aload_n 1 dr_cX14_goal_75 rfl ?_
    refine G_dup dr_cX14_goal_76 rfl ?_
    refine Gp_get 13 hm672643 he672656 dr_cX14_goal_77 (gk_X14 D I) (Nat.le_of_ble_eq_true rfl) wr_9_51 rfl ?_
    refine G_iconst 1 dr_cX14_goal_80 (by decide +kernel) ?_
    refine G_iadd dr_cX14_goal_81 (G_nam fun z672661 hz672661 => ?_)
    have ez672661 : z672661.toInt = p672573.toInt + 1 := by rw [gI_add hz672661 bp672573 (gBl (show Int32.toInt 1 = 1 by decide)) (by decide) (by decide), show Int32.toInt 1 = 1 from by decide]
    have bz672661 : gB z672661 1 1000001 := gB_add (gI_add hz672661 bp672573 (gBl (show Int32.toInt 1 = 1 by decide)) (by decide) (by decide)) bp672573 (gBl (show Int32.toInt 1 = 1 by decide)) (by decide) (by decide)
    refine Gp_put 13 hm672643 he672656 dr_cX14_goal_82 (gk_X14 D I) (Nat.le_of_ble_eq_true rfl) wr_9_51 rfl rfl rfl (Nat.le_of_ble_eq_true rfl) (fun F672662 e672663 n672664 => ?_)
    have he672665 : F672662 q672561 = .inl (I .int, n672576, .inl f672598) := (n672664 q672561 (rn_ao he672655 he672656)).trans he672655
    have he672666 : F672662 q672562 = .inl (I .int, n672578, .inl f672654) := (n672664 q672562 (rn_ao he672658 he672656)).trans he672658
    have he672667 : F672662 q672560 = .inl (I .byte, 8192, .inl f672574) := (n672664 q672560 (rn_ao he672657 he672656)).trans he672657
    have he672668 : F672662 q672559 = .inr (19, [.ref q672560, .int p672563, .int o672623, .int o672624, .int o672625, .int o672626, .int p672565, .ref q672627, .int p672570, .int p672571, .int p672572, .ref q672561, .ref q672562, .int z672661]) := e672663
    have hfr672669 : rFr [q672562, q672561, q672559] P672557 F672558 F672662 := rFr_put' (List.mem_cons_of_mem _ (List.mem_cons_of_mem _ List.mem_cons_self)) hfr672659 n672664
    have tp672670 : tP I P672637 F672662 o672624 q672627 q672562 q672561 xt672636 := tP_put tp672660 he672656 (by decide) n672664
    refine G_iload_n 0 dr_cX14_goal_85 rfl ?_
    exact G_iretA dr_cX14_goal_86 rfl (show (16 * (o672623.toInt - p672564.toInt)).toNat ≤ ((16 * (p672563.toInt - p672564.toInt)).toNat + 3) by omega) (show (160 * (o672623.toInt - p672564.toInt)).toNat ≤ ((160 * (p672563.toInt - p672564.toInt)).toNat + 4 * n672578 + 7) by omega) ⟨P672637, F672662, o672623, o672624, o672625, o672626, q672627, z672661, q672561, n672576, f672598, q672562, n672578, f672654, xt672636, rfl, rfl, hsb672647, hfr672669, he672665, he672666, he672668, he672667, hm672645, (Or.inl rfl), hm672646, (Or.inl rfl), (by omega), (by omega), bo672623, bo672624, bo672625, ⟨by omega, by omega⟩, (by omega), x672629, (by omega), tp672670, x672632, x672633, (by omega), (by omega), (Ne.symm hneq672561q672562), (glC_u hf672654 glC_rf (by omega)), (glL_u hf672654), (glP_u hf672598 x672588 (by first | assumption | exact ⟨by omega, by omega⟩)), (by omega), (by omega), (by omega), (by omega), (by omega), (by omega), (fun R c1 c2 => c1 z672592 f672598 xt672636 o672623 o672624 o672625 o672626 f672654 z672661 ez672592 r672594 hf672598 bo672623 bo672624 bo672625 ht672635 hf672654 ez672661)⟩
  · have r672671 : p672573.toInt = z672592.toInt := gC_eq hc672593
    have bz672592' : gB z672592 0 1000000 := ⟨by omega, by omega⟩
    refine G_aload_n 0 dr_cX14_goal_12 rfl ?_
    refine G_aload_n 0 dr_cX14_goal_13 rfl ?_
    refine Gp_get 12 hmq672559 heq672559 dr_cX14_goal_14 (gk_X14 D I) (Nat.le_of_ble_eq_true rfl) wr_9_50 rfl ?_
    refine G_iconst 2 dr_cX14_goal_17 (by decide +kernel) ?_
    refine G_aload_n 0 dr_cX14_goal_18 rfl ?_
    refine Gp_get 13 hmq672559 heq672559 dr_cX14_goal_19 (gk_X14 D I) (Nat.le_of_ble_eq_true rfl) wr_9_51 rfl ?_
    refine G_imul dr_cX14_goal_22 (G_nam fun z672672 hz672672 => ?_)
    have ez672672 : z672672.toInt = 2 * p672573.toInt := by rw [gI_mul hz672672 (gBl (show Int32.toInt 2 = 2 by decide)) bp672573 (by decide) (by decide) (by decide), show Int32.toInt 2 = 2 from by decide]
    have bz672672 : gB z672672 0 2000000 := gB_mul hz672672 (gBl (show Int32.toInt 2 = 2 by decide)) bp672573 (by decide) (by decide) (by decide) (by decide)
    refine Gw_callS (As := [.ref q672562, .int z672672]) (gV_ok D I) (cp_672681_Arrays_copyOf l hl0 D I P672557 F672558 q672562 z672672 f672577 n672578 hmq672562 heq672562 ⟨by omega, by omega⟩ (by omega) (by omega)) dr_cX14_goal_23 ⟨wr_10_114, wr_1_30, wr_10_116, by decide, rfl, (Nat.le_of_ble_eq_true rfl), (Nat.le_of_ble_eq_true rfl)⟩ wr_10_115 (show 0 + 1 ≤ ((16 * (p672563.toInt - p672564.toInt)).toNat + 3) by first | omega | decide) (show 0 + z672672.toInt.toNat ≤ ((160 * (p672563.toInt - p672564.toInt)).toNat + 4 * n672578 + 7) by first | omega | decide) (Nat.le_of_ble_eq_true rfl) (fun r672716 w672717 dc672713 ds672714 hp672715 => ?_) (fun _ _ _ _ _ z => z.elim)
    obtain ⟨P672724, F672725, q672718, f672719, rfl, rfl, hsb672726, hfr672727, he672728, he672729, hm672730, hq672731, hdc, hds, x672720, x672721, x672722, ht672723⟩ := hp672715
    have hm672732 : q672559 ∈ P672724 := hsb672726 q672559 hmq672559
    have hm672733 : q672560 ∈ P672724 := hsb672726 q672560 hmq672560
    have hm672734 : q672561 ∈ P672724 := hsb672726 q672561 hmq672561
    have hm672735 : q672562 ∈ P672724 := hsb672726 q672562 hmq672562
    have hq672736 : q672718 ∉ P672557 := fun z => hq672731 ((rSub_rf (P := P672557)) q672718 z)
    have hsb672737 : rSub P672557 P672724 := rSub_tr (rSub_rf (P := P672557)) hsb672726
    have he672738 : F672725 q672559 = .inr (19, [.ref q672560, .int p672563, .int p672564, .int p672565, .int p672566, .int p672567, .int p672568, .ref qo672569, .int p672570, .int p672571, .int p672572, .ref q672561, .ref q672562, .int p672573]) := (hfr672727 q672559 hmq672559 nm_n).trans heq672559
    have he672739 : F672725 q672560 = .inl (I .byte, 8192, .inl f672574) := (hfr672727 q672560 hmq672560 nm_n).trans heq672560
    have he672740 : F672725 q672561 = .inl (I .int, n672576, .inl f672575) := (hfr672727 q672561 hmq672561 nm_n).trans heq672561
    have hfr672741 : rFr [] P672557 F672558 F672725 := rFr_call (rSub_rf (P := P672557)) (rFr_rf (W := []) (P := P672557) (F := F672558)) hfr672727 (fun b hb hn => ⟨nm_n, nm_n⟩)
    have tp672742 : tP I P672724 F672725 p672565 qo672569 q672562 q672561 xt672579 := tP_new x672581 hsb672726 (fun b hb => hfr672727 b hb (fun z => by cases z)) (Or.inl rfl) (Or.inl rfl)
    have tp672743 : tP I P672724 F672725 p672565 qo672569 q672718 q672561 xt672579 := tP_new x672581 hsb672726 (fun b hb => hfr672727 b hb (fun z => by cases z)) (Or.inr hq672731) (Or.inl rfl)
    have tp672744 : tP I P672724 F672725 p672565 qo672569 q672562 q672718 xt672579 := tP_new x672581 hsb672726 (fun b hb => hfr672727 b hb (fun z => by cases z)) (Or.inl rfl) (Or.inr hq672731)
    change G _ _ _ _ _ _ _ (.ref q672718 :: _) _ _ _
    refine G_widen (cs' := 1) (sl' := z672672.toInt.toNat) (by omega) (by omega) ?_
    refine Gp_put 12 hm672732 he672738 dr_cX14_goal_26 (gk_X14 D I) (Nat.le_of_ble_eq_true rfl) wr_9_50 rfl rfl rfl (Nat.le_of_ble_eq_true rfl) (fun F672745 e672746 n672747 => ?_)
    have he672748 : F672745 q672560 = .inl (I .byte, 8192, .inl f672574) := (n672747 q672560 (rn_ao he672739 he672738)).trans he672739
    have he672749 : F672745 q672561 = .inl (I .int, n672576, .inl f672575) := (n672747 q672561 (rn_ao he672740 he672738)).trans he672740
    have he672750 : F672745 q672562 = .inl (I .int, n672578, .inl f672577) := (n672747 q672562 (rn_ao he672728 he672738)).trans he672728
    have he672751 : F672745 q672718 = .inl (I .int, z672672.toInt.toNat, .inl f672719) := (n672747 q672718 (fun h => hq672736 (h ▸ hmq672559))).trans he672729
    have he672752 : F672745 q672559 = .inr (19, [.ref q672560, .int p672563, .int p672564, .int p672565, .int p672566, .int p672567, .int p672568, .ref qo672569, .int p672570, .int p672571, .int p672572, .ref q672561, .ref q672718, .int p672573]) := e672746
    have hfr672753 : rFr [q672559] P672557 F672558 F672745 := rFr_put hfr672741 n672747
    have tp672754 : tP I P672724 F672745 p672565 qo672569 q672562 q672561 xt672579 := tP_put tp672742 he672738 (by decide) n672747
    have tp672755 : tP I P672724 F672745 p672565 qo672569 q672718 q672561 xt672579 := tP_put tp672743 he672738 (by decide) n672747
    have tp672756 : tP I P672724 F672745 p672565 qo672569 q672562 q672718 xt672579 := tP_put tp672744 he672738 (by decide) n672747
    refine G_aload_n 0 dr_cX14_goal_29 rfl ?_
    refine G_aload_n 0 dr_cX14_goal_30 rfl ?_
    refine Gp_get 11 hm672732 he672752 dr_cX14_goal_31 (gk_X14 D I) (Nat.le_of_ble_eq_true rfl) wr_9_49 rfl ?_
    refine G_iconst 2 dr_cX14_goal_34 (by decide +kernel) ?_
    refine G_aload_n 0 dr_cX14_goal_35 rfl ?_
    refine Gp_get 13 hm672732 he672752 dr_cX14_goal_36 (gk_X14 D I) (Nat.le_of_ble_eq_true rfl) wr_9_51 rfl ?_
    refine G_imul dr_cX14_goal_39 (G_nam fun z672757 hz672757 => ?_)
    have ez672757 : z672757.toInt = 2 * p672573.toInt := by rw [gI_mul hz672757 (gBl (show Int32.toInt 2 = 2 by decide)) bp672573 (by decide) (by decide) (by decide), show Int32.toInt 2 = 2 from by decide]
    have bz672757 : gB z672757 0 2000000 := gB_mul hz672757 (gBl (show Int32.toInt 2 = 2 by decide)) bp672573 (by decide) (by decide) (by decide) (by decide)
    refine Gw_callS (As := [.ref q672561, .int z672757]) (gV_ok D I) (cp_672681_Arrays_copyOf l hl0 D I P672724 F672745 q672561 z672757 f672575 n672576 hm672734 he672749 ⟨by omega, by omega⟩ (by omega) (by omega)) dr_cX14_goal_40 ⟨wr_10_114, wr_1_30, wr_10_116, by decide, rfl, (Nat.le_of_ble_eq_true rfl), (Nat.le_of_ble_eq_true rfl)⟩ wr_10_115 (show 1 + 1 ≤ ((16 * (p672563.toInt - p672564.toInt)).toNat + 3) by first | omega | decide) (show z672672.toInt.toNat + z672757.toInt.toNat ≤ ((160 * (p672563.toInt - p672564.toInt)).toNat + 4 * n672578 + 7) by first | omega | decide) (Nat.le_of_ble_eq_true rfl) (fun r672761 w672762 dc672758 ds672759 hp672760 => ?_) (fun _ _ _ _ _ z => z.elim)
    obtain ⟨P672769, F672770, q672763, f672764, rfl, rfl, hsb672771, hfr672772, he672773, he672774, hm672775, hq672776, hdc, hds, x672765, x672766, x672767, ht672768⟩ := hp672760
    have hm672777 : q672559 ∈ P672769 := hsb672771 q672559 hm672732
    have hm672778 : q672560 ∈ P672769 := hsb672771 q672560 hm672733
    have hm672779 : q672561 ∈ P672769 := hsb672771 q672561 hm672734
    have hm672780 : q672562 ∈ P672769 := hsb672771 q672562 hm672735
    have hm672781 : q672718 ∈ P672769 := hsb672771 q672718 hm672730
    have hq672782 : q672763 ∉ P672557 := fun z => hq672776 (hsb672737 q672763 z)
    have hsb672783 : rSub P672557 P672769 := rSub_tr hsb672737 hsb672771
    have he672784 : F672770 q672559 = .inr (19, [.ref q672560, .int p672563, .int p672564, .int p672565, .int p672566, .int p672567, .int p672568, .ref qo672569, .int p672570, .int p672571, .int p672572, .ref q672561, .ref q672718, .int p672573]) := (hfr672772 q672559 hm672732 nm_n).trans he672752
    have he672785 : F672770 q672560 = .inl (I .byte, 8192, .inl f672574) := (hfr672772 q672560 hm672733 nm_n).trans he672748
    have he672786 : F672770 q672562 = .inl (I .int, n672578, .inl f672577) := (hfr672772 q672562 hm672735 nm_n).trans he672750
    have he672787 : F672770 q672718 = .inl (I .int, z672672.toInt.toNat, .inl f672719) := (hfr672772 q672718 hm672730 nm_n).trans he672751
    have hfr672788 : rFr [q672559] P672557 F672558 F672770 := rFr_call hsb672737 hfr672753 hfr672772 (fun b hb hn => ⟨(nm_c (fun e => hn (e ▸ List.mem_cons_self)) nm_n), nm_n⟩)
    have tp672789 : tP I P672769 F672770 p672565 qo672569 q672562 q672561 xt672579 := tP_new tp672754 hsb672771 (fun b hb => hfr672772 b hb (fun z => by cases z)) (Or.inl rfl) (Or.inl rfl)
    have tp672790 : tP I P672769 F672770 p672565 qo672569 q672763 q672561 xt672579 := tP_new tp672754 hsb672771 (fun b hb => hfr672772 b hb (fun z => by cases z)) (Or.inr hq672776) (Or.inl rfl)
    have tp672791 : tP I P672769 F672770 p672565 qo672569 q672562 q672763 xt672579 := tP_new tp672754 hsb672771 (fun b hb => hfr672772 b hb (fun z => by cases z)) (Or.inl rfl) (Or.inr hq672776)
    have tp672792 : tP I P672769 F672770 p672565 qo672569 q672718 q672561 xt672579 := tP_new tp672755 hsb672771 (fun b hb => hfr672772 b hb (fun z => by cases z)) (Or.inl rfl) (Or.inl rfl)
    have tp672793 : tP I P672769 F672770 p672565 qo672569 q672763 q672561 xt672579 := tP_new tp672755 hsb672771 (fun b hb => hfr672772 b hb (fun z => by cases z)) (Or.inr hq672776) (Or.inl rfl)
    have tp672794 : tP I P672769 F672770 p672565 qo672569 q672718 q672763 xt672579 := tP_new tp672755 hsb672771 (fun b hb => hfr672772 b hb (fun z => by cases z)) (Or.inl rfl) (Or.inr hq672776)
    have tp672795 : tP I P672769 F672770 p672565 qo672569 q672562 q672718 xt672579 := tP_new tp672756 hsb672771 (fun b hb => hfr672772 b hb (fun z => by cases z)) (Or.inl rfl) (Or.inl rfl)
    have tp672796 : tP I P672769 F672770 p672565 qo672569 q672763 q672718 xt672579 := tP_new tp672756 hsb672771 (fun b hb => hfr672772 b hb (fun z => by cases z)) (Or.inr hq672776) (Or.inl rfl)
    have tp672797 : tP I P672769 F672770 p672565 qo672569 q672562 q672763 xt672579 := tP_new tp672756 hsb672771 (fun b hb => hfr672772 b hb (fun z => by cases z)) (Or.inl rfl) (Or.inr hq672776)
    have hne672798 : q672718 ≠ q672763 := fun h => hq672776 (h ▸ hm672730)
    change G _ _ _ _ _ _ _ (.ref q672763 :: _) _ _ _
    refine G_widen (cs' := 2) (sl' := z672672.toInt.toNat + z672757.toInt.toNat) (by omega) (by omega) ?_
    refine Gp_put 11 hm672777 he672784 dr_cX14_goal_43 (gk_X14 D I) (Nat.le_of_ble_eq_true rfl) wr_9_49 rfl rfl rfl (Nat.le_of_ble_eq_true rfl) (fun F672799 e672800 n672801 => ?_)
    have he672802 : F672799 q672560 = .inl (I .byte, 8192, .inl f672574) := (n672801 q672560 (rn_ao he672785 he672784)).trans he672785
    have he672803 : F672799 q672562 = .inl (I .int, n672578, .inl f672577) := (n672801 q672562 (rn_ao he672786 he672784)).trans he672786
    have he672804 : F672799 q672718 = .inl (I .int, z672672.toInt.toNat, .inl f672719) := (n672801 q672718 (fun h => hq672736 (h ▸ hmq672559))).trans he672787
    have he672805 : F672799 q672561 = .inl (I .int, n672576, .inl f672575) := (n672801 q672561 (rn_ao he672773 he672784)).trans he672773
    have he672806 : F672799 q672763 = .inl (I .int, z672757.toInt.toNat, .inl f672764) := (n672801 q672763 (fun h => hq672782 (h ▸ hmq672559))).trans he672774
    have he672807 : F672799 q672559 = .inr (19, [.ref q672560, .int p672563, .int p672564, .int p672565, .int p672566, .int p672567, .int p672568, .ref qo672569, .int p672570, .int p672571, .int p672572, .ref q672763, .ref q672718, .int p672573]) := e672800
    have hfr672808 : rFr [q672559] P672557 F672558 F672799 := rFr_put' List.mem_cons_self hfr672788 n672801
    have tp672809 : tP I P672769 F672799 p672565 qo672569 q672562 q672561 xt672579 := tP_put tp672789 he672784 (by decide) n672801
    have tp672810 : tP I P672769 F672799 p672565 qo672569 q672763 q672561 xt672579 := tP_put tp672790 he672784 (by decide) n672801
    have tp672811 : tP I P672769 F672799 p672565 qo672569 q672562 q672763 xt672579 := tP_put tp672791 he672784 (by decide) n672801
    have tp672812 : tP I P672769 F672799 p672565 qo672569 q672718 q672561 xt672579 := tP_put tp672792 he672784 (by decide) n672801
    have tp672813 : tP I P672769 F672799 p672565 qo672569 q672763 q672561 xt672579 := tP_put tp672793 he672784 (by decide) n672801
    have tp672814 : tP I P672769 F672799 p672565 qo672569 q672718 q672763 xt672579 := tP_put tp672794 he672784 (by decide) n672801
    have tp672815 : tP I P672769 F672799 p672565 qo672569 q672562 q672718 xt672579 := tP_put tp672795 he672784 (by decide) n672801
    have tp672816 : tP I P672769 F672799 p672565 qo672569 q672763 q672718 xt672579 := tP_put tp672796 he672784 (by decide) n672801
    have tp672817 : tP I P672769 F672799 p672565 qo672569 q672562 q672763 xt672579 := tP_put tp672797 he672784 (by decide) n672801
    refine G_aload_n 0 dr_cX14_goal_46 rfl ?_
    refine Gp_get 11 hm672777 he672807 dr_cX14_goal_47 (gk_X14 D I) (Nat.le_of_ble_eq_true rfl) wr_9_49 rfl ?_
    refine G_aload_n 0 dr_cX14_goal_50 rfl ?_
    refine Gp_get 13 hm672777 he672807 dr_cX14_goal_51 (gk_X14 D I) (Nat.le_of_ble_eq_true rfl) wr_9_51 rfl ?_
    refine G_aload_n 0 dr_cX14_goal_54 rfl ?_
    refine Gp_get 4 hm672777 he672807 dr_cX14_goal_55 (gk_X14 D I) (Nat.le_of_ble_eq_true rfl) wr_9_40 rfl ?_
    refine Gp_iast 0 hm672775 he672806 dr_cX14_goal_58 rfl (gB_inr (by omega) (by omega)) (fun F672818 e672819 n672820 => ?_)
    obtain ⟨f672821, hf672821⟩ : ∃ z, z = upd f672764 p672573.toNatClampNeg p672566 := ⟨_, rfl⟩
    rw [← hf672821] at e672819
    have he672822 : F672818 q672559 = .inr (19, [.ref q672560, .int p672563, .int p672564, .int p672565, .int p672566, .int p672567, .int p672568, .ref qo672569, .int p672570, .int p672571, .int p672572, .ref q672763, .ref q672718, .int p672573]) := (n672820 q672559 (fun h => hq672782 (h ▸ hmq672559))).trans he672807
    have he672823 : F672818 q672560 = .inl (I .byte, 8192, .inl f672574) := (n672820 q672560 (fun h => hq672782 (h ▸ hmq672560))).trans he672802
    have he672824 : F672818 q672562 = .inl (I .int, n672578, .inl f672577) := (n672820 q672562 (fun h => hq672782 (h ▸ hmq672562))).trans he672803
    have he672825 : F672818 q672718 = .inl (I .int, z672672.toInt.toNat, .inl f672719) := (n672820 q672718 hne672798).trans he672804
    have he672826 : F672818 q672561 = .inl (I .int, n672576, .inl f672575) := (n672820 q672561 (fun h => hq672782 (h ▸ hmq672561))).trans he672805
    have he672827 : F672818 q672763 = .inl (I .int, z672757.toInt.toNat, .inl f672821) := e672819
    have hfr672828 : rFr [q672559] P672557 F672558 F672818 := rFr_newp hq672782 hfr672808 n672820
    have tp672830 : tP I P672769 F672818 p672565 qo672569 q672763 q672561 xt672579 := tP_pa tp672810 he672806 (Or.inl rfl) n672820
    have tp672831 : tP I P672769 F672818 p672565 qo672569 q672562 q672763 xt672579 := tP_pa tp672811 he672806 (Or.inr rfl) n672820
    have tp672833 : tP I P672769 F672818 p672565 qo672569 q672763 q672561 xt672579 := tP_pa tp672813 he672806 (Or.inl rfl) n672820
    have tp672834 : tP I P672769 F672818 p672565 qo672569 q672718 q672763 xt672579 := tP_pa tp672814 he672806 (Or.inr rfl) n672820
    have tp672836 : tP I P672769 F672818 p672565 qo672569 q672763 q672718 xt672579 := tP_pa tp672816 he672806 (Or.inl rfl) n672820
    have tp672837 : tP I P672769 F672818 p672565 qo672569 q672562 q672763 xt672579 := tP_pa tp672817 he672806 (Or.inr rfl) n672820
    refine G_aload_n 0 dr_cX14_goal_59 rfl ?_
    refine G_iconst 3 dr_cX14_goal_60 (by decide +kernel) ?_
    refine Gw_callV (As := [.int 3]) (gV_ok D I) (cp_671789_Reader_want l hl0 D I P672769 F672818 q672559 q672560 3 p672563 p672564 p672565 p672566 p672567 p672568 qo672569 p672570 p672571 p672572 q672763 q672718 p672573 f672574 xt672579 hm672777 hm672778 he672822 he672823 (gB_w (gBl (show Int32.toInt 3 = 3 by decide)) (by decide) (by decide)) bp672563 bp672564 bp672565 bp672566 bp672568 bp672570 bp672571 bp672572 bp672573 bf672574 (by omega) hm672781 hm672775 tp672834 x672582) dr_cX14_goal_61 ⟨wr_9_93, wr_1_32, wr_9_96, by decide, rfl, (Nat.le_of_ble_eq_true rfl), (Nat.le_of_ble_eq_true rfl)⟩ wr_9_95 wr_p_80 hm672777 he672822 rfl (show 2 + ((16 * (p672563.toInt - p672564.toInt)).toNat + 1) ≤ ((16 * (p672563.toInt - p672564.toInt)).toNat + 3) by first | omega | decide) (show z672672.toInt.toNat + z672757.toInt.toNat + ((160 * (p672563.toInt - p672564.toInt)).toNat + 7) ≤ ((160 * (p672563.toInt - p672564.toInt)).toNat + 4 * n672578 + 7) by first | omega | decide) (Nat.le_of_ble_eq_true rfl) (fun r672841 w672842 dc672838 ds672839 hp672840 => ?_) (fun _ qx672854 _ dc672852 ds672853 hx => by obtain ⟨P672850, F672851, rfl, rfl, hsb672843, hfr672844, hq672845, hqn672846, hwr672847, hdc672848, hds672849, ht672855⟩ := hx; exact GT_outA rfl (show 2 + dc672852 ≤ ((16 * (p672563.toInt - p672564.toInt)).toNat + 3) by omega) (show z672672.toInt.toNat + z672757.toInt.toNat + ds672853 ≤ ((160 * (p672563.toInt - p672564.toInt)).toNat + 4 * n672578 + 7) by omega) ⟨P672850, F672851, rfl, rfl, (rSub_tr hsb672783 hsb672843), (rFr_v (show rFr [q672559] P672557 F672558 F672851 from rFr_call hsb672783 hfr672828 hfr672844 (fun b hb hn => ⟨(nm_c (fun e => hn (e ▸ List.mem_cons_self)) nm_n), nm_n⟩)) (fun b hn => (nm_c (fun e => hn (e ▸ (List.mem_cons_of_mem _ List.mem_cons_self))) nm_n))), hq672845, (fun z => hqn672846 (hsb672783 _ z)), hwr672847, (by omega), (by omega), (fun R c1 c2 => c2 z672592 z672672 f672719 z672757 f672764 ez672592 r672671 ez672672 ht672723 ez672757 ht672768 ht672855)⟩)
    obtain ⟨P672870, F672871, o672856, o672857, o672858, o672859, q672860, xt672869, rfl, rfl, hsb672872, hfr672873, he672874, he672875, hdc, hds, bo672856, bo672857, bo672858, x672861, x672862, x672863, x672864, x672865, x672866, x672867, ht672868⟩ := hp672840
    have hm672876 : q672559 ∈ P672870 := hsb672872 q672559 hm672777
    have hm672877 : q672560 ∈ P672870 := hsb672872 q672560 hm672778
    have hm672878 : q672561 ∈ P672870 := hsb672872 q672561 hm672779
    have hm672879 : q672562 ∈ P672870 := hsb672872 q672562 hm672780
    have hm672880 : q672718 ∈ P672870 := hsb672872 q672718 hm672781
    have hm672881 : q672763 ∈ P672870 := hsb672872 q672763 hm672775
    have hsb672882 : rSub P672557 P672870 := rSub_tr hsb672783 hsb672872
    have he672883 : F672871 q672562 = .inl (I .int, n672578, .inl f672577) := (hfr672873 q672562 hm672780 (nm_c (rn_ao he672824 he672822) nm_n)).trans he672824
    have he672884 : F672871 q672718 = .inl (I .int, z672672.toInt.toNat, .inl f672719) := (hfr672873 q672718 hm672781 (nm_c (fun h => hq672736 (h ▸ hmq672559)) nm_n)).trans he672825
    have he672885 : F672871 q672561 = .inl (I .int, n672576, .inl f672575) := (hfr672873 q672561 hm672779 (nm_c (rn_ao he672826 he672822) nm_n)).trans he672826
    have he672886 : F672871 q672763 = .inl (I .int, z672757.toInt.toNat, .inl f672821) := (hfr672873 q672763 hm672775 (nm_c (fun h => hq672782 (h ▸ hmq672559)) nm_n)).trans he672827
    have hfr672887 : rFr [q672559] P672557 F672558 F672871 := rFr_call hsb672783 hfr672828 hfr672873 (fun b hb hn => ⟨(nm_c (fun e => hn (e ▸ List.mem_cons_self)) nm_n), (nm_c (fun e => hn (e ▸ List.mem_cons_self)) nm_n)⟩)
    have bo672859 := gB_any o672859
    rw [show Int32.toInt 3 = 3 from by decide] at x672867
    change G _ _ _ _ _ _ _ (.int p672567 :: _) _ _ _
    refine G_widen (cs' := 2 + ((16 * (o672856.toInt - p672564.toInt)).toNat)) (sl' := z672672.toInt.toNat + z672757.toInt.toNat + ((160 * (o672856.toInt - p672564.toInt)).toNat)) (by omega) (by omega) ?_
    refine G_istore_n (L' := [(1, .int p672567), (0, .ref q672559)]) dr_cX14_goal_64 (Nat.le_of_ble_eq_true rfl) rfl ?_
    refine G_aload_n 1 dr_cX14_goal_65 rfl ?_
    refine Gp_get 12 hm672876 he672874 dr_cX14_goal_66 (gk_X14 D I) (Nat.le_of_ble_eq_true rfl) wr_9_50 rfl ?_
    refine G_aload_n 1 dr_cX14_goal_69 rfl ?_
    refine Gp_get 13 hm672876 he672874 dr_cX14_goal_70 (gk_X14 D I) (Nat.le_of_ble_eq_true rfl) wr_9_51 rfl ?_
    refine G_iload_n 0 dr_cX14_goal_73 rfl ?_
    refine Gp_iast 0 hm672880 he672884 dr_cX14_goal_74 rfl (gB_inr (by omega) (by omega)) (fun F672888 e672889 n672890 => ?_)
    obtain ⟨f672891, hf672891⟩ : ∃ z, z = upd f672719 p672573.toNatClampNeg p672567 := ⟨_, rfl⟩
    rw [← hf672891] at e672889
    have he672892 : F672888 q672562 = .inl (I .int, n672578, .inl f672577) := (n672890 q672562 (fun h => hq672736 (h ▸ hmq672562))).trans he672883
    have he672893 : F672888 q672561 = .inl (I .int, n672576, .inl f672575) := (n672890 q672561 (fun h => hq672736 (h ▸ hmq672561))).trans he672885
    have he672894 : F672888 q672763 = .inl (I .int, z672757.toInt.toNat, .inl f672821) := (n672890 q672763 (Ne.symm hne672798)).trans he672886
    have he672895 : F672888 q672559 = .inr (19, [.ref q672560, .int p672563, .int o672856, .int o672857, .int o672858, .int o672859, .int p672565, .ref q672860, .int p672570, .int p672571, .int p672572, .ref q672763, .ref q672718, .int p672573]) := (n672890 q672559 (fun h => hq672736 (h ▸ hmq672559))).trans he672874
    have he672896 : F672888 q672560 = .inl (I .byte, 8192, .inl f672574) := (n672890 q672560 (fun h => hq672736 (h ▸ hmq672560))).trans he672875
    have he672897 : F672888 q672718 = .inl (I .int, z672672.toInt.toNat, .inl f672891) := e672889
    have hfr672898 : rFr [q672559] P672557 F672558 F672888 := rFr_newp hq672736 hfr672887 n672890
    have tp672899 : tP I P672870 F672888 o672857 q672860 q672718 q672763 xt672869 := tP_pa x672864 he672884 (Or.inl rfl) n672890
    refine G_aload_n 1 dr_cX14_goal_75 rfl ?_
    refine G_dup dr_cX14_goal_76 rfl ?_
    refine Gp_get 13 hm672876 he672895 dr_cX14_goal_77 (gk_X14 D I) (Nat.le_of_ble_eq_true rfl) wr_9_51 rfl ?_
    refine G_iconst 1 dr_cX14_goal_80 (by decide +kernel) ?_
    refine G_iadd dr_cX14_goal_81 (G_nam fun z672900 hz672900 => ?_)
    have ez672900 : z672900.toInt = p672573.toInt + 1 := by rw [gI_add hz672900 bp672573 (gBl (show Int32.toInt 1 = 1 by decide)) (by decide) (by decide), show Int32.toInt 1 = 1 from by decide]
    have bz672900 : gB z672900 1 1000001 := gB_add (gI_add hz672900 bp672573 (gBl (show Int32.toInt 1 = 1 by decide)) (by decide) (by decide)) bp672573 (gBl (show Int32.toInt 1 = 1 by decide)) (by decide) (by decide)
    refine Gp_put 13 hm672876 he672895 dr_cX14_goal_82 (gk_X14 D I) (Nat.le_of_ble_eq_true rfl) wr_9_51 rfl rfl rfl (Nat.le_of_ble_eq_true rfl) (fun F672901 e672902 n672903 => ?_)
    have he672904 : F672901 q672562 = .inl (I .int, n672578, .inl f672577) := (n672903 q672562 (rn_ao he672892 he672895)).trans he672892
    have he672905 : F672901 q672718 = .inl (I .int, z672672.toInt.toNat, .inl f672891) := (n672903 q672718 (fun h => hq672736 (h ▸ hmq672559))).trans he672897
    have he672906 : F672901 q672561 = .inl (I .int, n672576, .inl f672575) := (n672903 q672561 (rn_ao he672893 he672895)).trans he672893
    have he672907 : F672901 q672763 = .inl (I .int, z672757.toInt.toNat, .inl f672821) := (n672903 q672763 (fun h => hq672782 (h ▸ hmq672559))).trans he672894
    have he672908 : F672901 q672560 = .inl (I .byte, 8192, .inl f672574) := (n672903 q672560 (rn_ao he672896 he672895)).trans he672896
    have he672909 : F672901 q672559 = .inr (19, [.ref q672560, .int p672563, .int o672856, .int o672857, .int o672858, .int o672859, .int p672565, .ref q672860, .int p672570, .int p672571, .int p672572, .ref q672763, .ref q672718, .int z672900]) := e672902
    have hfr672910 : rFr [q672559] P672557 F672558 F672901 := rFr_put' List.mem_cons_self hfr672898 n672903
    have tp672911 : tP I P672870 F672901 o672857 q672860 q672718 q672763 xt672869 := tP_put tp672899 he672895 (by decide) n672903
    refine G_iload_n 0 dr_cX14_goal_85 rfl ?_
    exact G_iretA dr_cX14_goal_86 rfl (show 2 + ((16 * (o672856.toInt - p672564.toInt)).toNat) ≤ ((16 * (p672563.toInt - p672564.toInt)).toNat + 3) by omega) (show z672672.toInt.toNat + z672757.toInt.toNat + ((160 * (o672856.toInt - p672564.toInt)).toNat) ≤ ((160 * (p672563.toInt - p672564.toInt)).toNat + 4 * n672578 + 7) by omega) ⟨P672870, F672901, o672856, o672857, o672858, o672859, q672860, z672900, q672763, z672757.toInt.toNat, f672821, q672718, z672672.toInt.toNat, f672891, xt672869, rfl, rfl, hsb672882, (rFr_v hfr672910 (fun b hn => (nm_c (fun e => hn (e ▸ (List.mem_cons_of_mem _ (List.mem_cons_of_mem _ List.mem_cons_self)))) nm_n))), he672907, he672905, he672909, he672908, hm672881, (Or.inr hq672782), hm672880, (Or.inr hq672736), (by omega), (by omega), bo672856, bo672857, bo672858, ⟨by omega, by omega⟩, (by omega), x672862, (by omega), tp672911, x672865, x672866, (by omega), (by omega), hne672798, (glC_u hf672891 (glC_tr glC_rf x672721 (show p672573.toInt ≤ p672573.toInt from Int.le_refl _) (by omega)) (by omega)), (glL_u hf672891), (glP_u hf672821 (glP_b x672767 x672588) (by first | assumption | exact ⟨by omega, by omega⟩)), (by omega), (by omega), (by omega), (by omega), (by omega), (by omega), (fun R c1 c2 => c2 z672592 z672672 f672719 z672757 f672764 f672821 xt672869 o672856 o672857 o672858 o672859 f672891 z672900 ez672592 r672671 ez672672 ht672723 ez672757 ht672768 hf672821 bo672856 bo672857 bo672858 ht672868 hf672891 ez672900)⟩
/- tr_RReader_row: a.0...at, a.0...kind, a.0...place, a.0...value, a.0...before, a.1...op, a.1...t, a.1...a, a.1...b, a.1...regA, a.1...regB -/
def tr_RReader_row (a0_n : Int32) (a0_at : Int32) (a0_kind : Int32) (a0_value : Int32) (a1_t : Int32) (a1_a : Int32) (a1_b : Int32) (a1_regA : Int32) (a1_regB : Int32) (a0_t_v : Nat → Int32) (xt : gTx) (o1 : Int32) (o2 : Int32) (o3 : Int32) (o4 : Int32) (o5 : Int32) (o6 : Int32) (o7 : Int32) (o8 : Int32) (o9 : Int32) (o10 : Int32) (o11 : Int32) (o12 : gTx) : Prop := ∀ R : (Int32) → (Int32) → (Int32) → (Int32) → (Int32) → (Int32) → (Int32) → (Int32) → (Int32) → (Int32) → (Int32) → (gTx) → Prop,
  (∀ (x1 : Int32) (x2 : gTx) (x3 : Int32) (x4 : Int32) (x5 : Int32) (x6 : Int32) (x7 : gTx) (x8 : Int32) (x9 : Int32) (x10 : Int32) (x11 : Int32) (x12 : Int32) (x13 : gTx) (x14 : Int32) (x15 : Int32) (x16 : Int32) (x17 : Int32) (x18 : Int32) (x19 : Int32) (x20 : Int32) (x21 : Int32), gB x1 0 1 → tr_RReader_is sb_39 a0_kind xt x1 → x1.toInt = 0 → gB x3 0 8192 → gB x4 0 6 → gB x5 0 8192 → tr_RReader_want2 (2 : Int32) a0_n a0_at a0_kind a0_value a0_t_v x3 x4 x5 x6 x2 → gB x8 0 8192 → gB x9 0 6 → gB x10 0 8192 → tr_RReader_want sb_40 a0_n x3 x4 x6 a0_t_v x2 x8 x9 x10 x11 x7 → gB x12 0 1 → tr_RReader_is sb_41 x9 x7 x12 → x12.toInt = 0 → gB x14 0 8192 → gB x15 0 6 → gB x16 0 8192 → gB x20 0 1 → gB x21 0 1 → tr_RReader_operand (0 : Int32) a0_n x8 x9 x11 a1_a a1_b a1_regA a1_regB a0_t_v x14 x15 x16 x17 x18 x19 x20 x21 x13 → x15.toInt ≠ 5 → R x14 x15 x16 x17 x9 (0 : Int32) a0_value x18 x19 x20 x21 x13) →
  (∀ (x1 : Int32) (x2 : gTx) (x3 : Int32) (x4 : Int32) (x5 : Int32) (x6 : Int32) (x7 : gTx) (x8 : Int32) (x9 : Int32) (x10 : Int32) (x11 : Int32) (x12 : Int32) (x13 : gTx) (x14 : Int32) (x15 : Int32) (x16 : Int32) (x17 : Int32) (x18 : Int32) (x19 : Int32) (x20 : Int32) (x21 : Int32) (x22 : Int32) (x23 : gTx) (x24 : Int32) (x25 : Int32) (x26 : Int32) (x27 : Int32) (x28 : gTx) (x29 : Int32) (x30 : Int32) (x31 : Int32) (x32 : Int32) (x33 : Int32) (x34 : Int32) (x35 : Int32) (x36 : Int32), gB x1 0 1 → tr_RReader_is sb_39 a0_kind xt x1 → x1.toInt = 0 → gB x3 0 8192 → gB x4 0 6 → gB x5 0 8192 → tr_RReader_want2 (2 : Int32) a0_n a0_at a0_kind a0_value a0_t_v x3 x4 x5 x6 x2 → gB x8 0 8192 → gB x9 0 6 → gB x10 0 8192 → tr_RReader_want sb_40 a0_n x3 x4 x6 a0_t_v x2 x8 x9 x10 x11 x7 → gB x12 0 1 → tr_RReader_is sb_41 x9 x7 x12 → x12.toInt = 0 → gB x14 0 8192 → gB x15 0 6 → gB x16 0 8192 → gB x20 0 1 → gB x21 0 1 → tr_RReader_operand (0 : Int32) a0_n x8 x9 x11 a1_a a1_b a1_regA a1_regB a0_t_v x14 x15 x16 x17 x18 x19 x20 x21 x13 → x15.toInt = 5 → gB x22 0 14 → tr_RModel_operation x13.2 x13.1 x22 → x22.toInt ≠ 0 → gB x24 0 8192 → gB x25 0 6 → gB x26 0 8192 → tr_RReader_next a0_n x14 x15 x17 a0_t_v x24 x25 x26 x27 x23 → gB x29 0 8192 → gB x30 0 6 → gB x31 0 8192 → gB x35 0 1 → gB x36 0 1 → tr_RReader_operand (1 : Int32) a0_n x24 x25 x27 x18 x19 x20 x21 a0_t_v x29 x30 x31 x32 x33 x34 x35 x36 x28 → R x29 x30 x31 x32 x25 x22 a0_value x33 x34 x35 x36 x28) →
  (∀ (x1 : Int32) (x2 : gTx) (x3 : Int32) (x4 : Int32) (x5 : Int32) (x6 : Int32) (x7 : gTx) (x8 : Int32) (x9 : Int32) (x10 : Int32) (x11 : Int32) (x12 : Int32) (x13 : gTx) (x14 : Int32) (x15 : Int32) (x16 : Int32) (x17 : Int32) (x18 : Int32) (x19 : Int32) (x20 : Int32) (x21 : Int32) (x22 : Int32), gB x1 0 1 → tr_RReader_is sb_39 a0_kind xt x1 → x1.toInt = 0 → gB x3 0 8192 → gB x4 0 6 → gB x5 0 8192 → tr_RReader_want2 (2 : Int32) a0_n a0_at a0_kind a0_value a0_t_v x3 x4 x5 x6 x2 → gB x8 0 8192 → gB x9 0 6 → gB x10 0 8192 → tr_RReader_want sb_40 a0_n x3 x4 x6 a0_t_v x2 x8 x9 x10 x11 x7 → gB x12 0 1 → tr_RReader_is sb_41 x9 x7 x12 → x12.toInt = 0 → gB x14 0 8192 → gB x15 0 6 → gB x16 0 8192 → gB x20 0 1 → gB x21 0 1 → tr_RReader_operand (0 : Int32) a0_n x8 x9 x11 a1_a a1_b a1_regA a1_regB a0_t_v x14 x15 x16 x17 x18 x19 x20 x21 x13 → x15.toInt = 5 → gB x22 0 14 → tr_RModel_operation x13.2 x13.1 x22 → x22.toInt = 0 → R x14 x15 x16 x17 x9 x22 a0_value x18 x19 x20 x21 (x13.1, x13.2)) →
  (∀ (x1 : Int32) (x2 : gTx) (x3 : Int32) (x4 : Int32) (x5 : Int32) (x6 : Int32) (x7 : gTx) (x8 : Int32) (x9 : Int32) (x10 : Int32) (x11 : Int32) (x12 : Int32) (x13 : gTx) (x14 : Int32) (x15 : Int32) (x16 : Int32) (x17 : Int32), gB x1 0 1 → tr_RReader_is sb_39 a0_kind xt x1 → x1.toInt = 0 → gB x3 0 8192 → gB x4 0 6 → gB x5 0 8192 → tr_RReader_want2 (2 : Int32) a0_n a0_at a0_kind a0_value a0_t_v x3 x4 x5 x6 x2 → gB x8 0 8192 → gB x9 0 6 → gB x10 0 8192 → tr_RReader_want sb_40 a0_n x3 x4 x6 a0_t_v x2 x8 x9 x10 x11 x7 → gB x12 0 1 → tr_RReader_is sb_41 x9 x7 x12 → x12.toInt ≠ 0 → gB x14 0 8192 → gB x15 0 6 → gB x16 0 8192 → tr_RReader_next a0_n x8 x9 x11 a0_t_v x14 x15 x16 x17 x13 → R x14 x15 x16 x17 x9 (20 : Int32) a0_value a1_a a1_b a1_regA a1_regB x13) →
  (∀ (x1 : Int32) (x2 : gTx) (x3 : Int32) (x4 : Int32) (x5 : Int32) (x6 : Int32) (x7 : gTx) (x8 : Int32) (x9 : Int32) (x10 : Int32) (x11 : Int32) (x12 : Int32) (x13 : Int32) (x14 : Int32) (x15 : Int32), gB x1 0 1 → tr_RReader_is sb_39 a0_kind xt x1 → x1.toInt ≠ 0 → gB x3 0 8192 → gB x4 0 6 → gB x5 0 8192 → tr_RReader_next a0_n a0_at a0_kind a0_value a0_t_v x3 x4 x5 x6 x2 → gB x8 0 8192 → gB x9 0 6 → gB x10 0 8192 → gB x14 0 1 → gB x15 0 1 → tr_RReader_operand (0 : Int32) a0_n x3 x4 x6 a1_a a1_b a1_regA a1_regB a0_t_v x8 x9 x10 x11 x12 x13 x14 x15 x7 → R x8 x9 x10 x11 x4 (22 : Int32) a1_t x12 x13 x14 x15 x7) →
  R o1 o2 o3 o4 o5 o6 o7 o8 o9 o10 o11 o12
/- tx_RReader_row: throws -/
def tx_RReader_row (a0_n : Int32) (a0_at : Int32) (a0_kind : Int32) (a0_value : Int32) (a1_a : Int32) (a1_b : Int32) (a1_regA : Int32) (a1_regB : Int32) (a0_t_v : Nat → Int32) (xt : gTx) : Prop := ∀ R : Prop,
  (∀ (x1 : Int32), gB x1 0 1 → tr_RReader_is sb_39 a0_kind xt x1 → x1.toInt = 0 → tx_RReader_want2 (2 : Int32) a0_kind → R) →
  (∀ (x1 : Int32) (x2 : gTx) (x3 : Int32) (x4 : Int32) (x5 : Int32) (x6 : Int32), gB x1 0 1 → tr_RReader_is sb_39 a0_kind xt x1 → x1.toInt = 0 → gB x3 0 8192 → gB x4 0 6 → gB x5 0 8192 → tr_RReader_want2 (2 : Int32) a0_n a0_at a0_kind a0_value a0_t_v x3 x4 x5 x6 x2 → tx_RReader_want sb_40 x4 x2 → R) →
  (∀ (x1 : Int32) (x2 : gTx) (x3 : Int32) (x4 : Int32) (x5 : Int32) (x6 : Int32) (x7 : gTx) (x8 : Int32) (x9 : Int32) (x10 : Int32) (x11 : Int32) (x12 : Int32), gB x1 0 1 → tr_RReader_is sb_39 a0_kind xt x1 → x1.toInt = 0 → gB x3 0 8192 → gB x4 0 6 → gB x5 0 8192 → tr_RReader_want2 (2 : Int32) a0_n a0_at a0_kind a0_value a0_t_v x3 x4 x5 x6 x2 → gB x8 0 8192 → gB x9 0 6 → gB x10 0 8192 → tr_RReader_want sb_40 a0_n x3 x4 x6 a0_t_v x2 x8 x9 x10 x11 x7 → gB x12 0 1 → tr_RReader_is sb_41 x9 x7 x12 → x12.toInt = 0 → tx_RReader_operand x9 → R) →
  (∀ (x1 : Int32) (x2 : gTx) (x3 : Int32) (x4 : Int32) (x5 : Int32) (x6 : Int32) (x7 : gTx) (x8 : Int32) (x9 : Int32) (x10 : Int32) (x11 : Int32) (x12 : Int32) (x13 : gTx) (x14 : Int32) (x15 : Int32) (x16 : Int32) (x17 : Int32) (x18 : Int32) (x19 : Int32) (x20 : Int32) (x21 : Int32) (x22 : Int32) (x23 : gTx) (x24 : Int32) (x25 : Int32) (x26 : Int32) (x27 : Int32), gB x1 0 1 → tr_RReader_is sb_39 a0_kind xt x1 → x1.toInt = 0 → gB x3 0 8192 → gB x4 0 6 → gB x5 0 8192 → tr_RReader_want2 (2 : Int32) a0_n a0_at a0_kind a0_value a0_t_v x3 x4 x5 x6 x2 → gB x8 0 8192 → gB x9 0 6 → gB x10 0 8192 → tr_RReader_want sb_40 a0_n x3 x4 x6 a0_t_v x2 x8 x9 x10 x11 x7 → gB x12 0 1 → tr_RReader_is sb_41 x9 x7 x12 → x12.toInt = 0 → gB x14 0 8192 → gB x15 0 6 → gB x16 0 8192 → gB x20 0 1 → gB x21 0 1 → tr_RReader_operand (0 : Int32) a0_n x8 x9 x11 a1_a a1_b a1_regA a1_regB a0_t_v x14 x15 x16 x17 x18 x19 x20 x21 x13 → x15.toInt = 5 → gB x22 0 14 → tr_RModel_operation x13.2 x13.1 x22 → x22.toInt ≠ 0 → gB x24 0 8192 → gB x25 0 6 → gB x26 0 8192 → tr_RReader_next a0_n x14 x15 x17 a0_t_v x24 x25 x26 x27 x23 → tx_RReader_operand x25 → R) →
  (∀ (x1 : Int32) (x2 : gTx) (x3 : Int32) (x4 : Int32) (x5 : Int32) (x6 : Int32), gB x1 0 1 → tr_RReader_is sb_39 a0_kind xt x1 → x1.toInt ≠ 0 → gB x3 0 8192 → gB x4 0 6 → gB x5 0 8192 → tr_RReader_next a0_n a0_at a0_kind a0_value a0_t_v x3 x4 x5 x6 x2 → tx_RReader_operand x4 → R) →
  R
abbrev ky_672964_Reader_row : gKey := (cX14_row, 2, "SpillForgeModel$Reader", none, [], "row", fun _ _ => True)
def pp_672964_Reader_row (D : va_G) (I : FieldType → ClassId) (P672929 : List Nat) (F672930 : Nat → va_E) (q672931 : Nat) (q672932 : Nat) (q672933 : Nat) (p672934 : Int32) (p672935 : Int32) (p672936 : Int32) (p672937 : Int32) (p672938 : Int32) (p672939 : Int32) (qo672940 : Nat) (p672941 : Int32) (p672942 : Int32) (p672943 : Int32) (qo672944 : Nat) (qo672945 : Nat) (p672946 : Int32) (p672947 : Int32) (p672948 : Int32) (p672949 : Int32) (p672950 : Int32) (p672951 : Int32) (p672952 : Int32) (p672953 : Int32) (f672954 : Nat → Int32) (xt672955 : gTx) : Option Value → va_W → Nat → Nat → Prop := fun r w dc ds => ∃ (P673445 : List Nat) (F673446 : Nat → va_E) (o673433 : Int32) (o673434 : Int32) (o673435 : Int32) (o673436 : Int32) (o673437 : Int32) (q673438 : Nat) (o673439 : Int32) (o673440 : Int32) (o673441 : Int32) (o673442 : Int32) (o673443 : Int32) (o673444 : Int32) (xt673447 : gTx), r = none ∧ w = va_pl P673445 F673446 ∧ rSub P672929 P673445 ∧ rFr [q672932, q672931] P672929 F672930 F673446 ∧ F673446 q672932 = .inr (20, [.int o673439, .int o673440, .int o673441, .int o673442, .int p672951, .int o673443, .int o673444]) ∧ F673446 q672931 = .inr (19, [.ref q672933, .int p672934, .int o673433, .int o673434, .int o673435, .int o673436, .int o673437, .ref q673438, .int p672941, .int p672942, .int p672943, .ref qo672944, .ref qo672945, .int p672946]) ∧ F673446 q672933 = .inl (I .byte, 8192, .inl f672954) ∧ dc ≤ (16 * (o673433.toInt - p672935.toInt)).toNat + 8 ∧ ds ≤ (160 * (o673433.toInt - p672935.toInt)).toNat + 64 ∧ gB o673433 0 8192 ∧ gB o673434 0 6 ∧ gB o673435 0 8192 ∧ gB o673437 0 6 ∧ gB o673439 0 22 ∧ gB o673440 0 1999 ∧ gB o673443 0 1 ∧ gB o673444 0 1 ∧ p672935.toInt ≤ o673433.toInt ∧ prP o673434 p672935 o673433 ∧ o673433.toInt ≤ p672934.toInt ∧ tP I P673445 F673446 o673434 q673438 qo672945 qo672944 xt673447 ∧ vP o673434 o673436 ∧ rwP o673443 o673441 ∧ rwP o673444 o673442 ∧ opP o673439 ∧ opQ o673439 ∧ nzK p672936 ∧ rwQ p672935 o673433 o673434 ∧ tr_RReader_row p672934 p672935 p672936 p672938 p672948 p672949 p672950 p672952 p672953 f672954 xt672955 o673433 o673434 o673435 o673436 o673437 o673439 o673440 o673441 o673442 o673443 o673444 xt673447
def xp_672964_Reader_row (D : va_G) (I : FieldType → ClassId) (P672929 : List Nat) (F672930 : Nat → va_E) (q672931 : Nat) (q672932 : Nat) (q672933 : Nat) (p672934 : Int32) (p672935 : Int32) (p672936 : Int32) (p672937 : Int32) (p672938 : Int32) (p672939 : Int32) (qo672940 : Nat) (p672941 : Int32) (p672942 : Int32) (p672943 : Int32) (qo672944 : Nat) (qo672945 : Nat) (p672946 : Int32) (p672947 : Int32) (p672948 : Int32) (p672949 : Int32) (p672950 : Int32) (p672951 : Int32) (p672952 : Int32) (p672953 : Int32) (f672954 : Nat → Int32) (xt672955 : gTx) : String → Nat → va_W → Nat → Nat → Prop := fun E q w dc ds => ∃ (P673449 : List Nat) (F673448 : Nat → va_E), E = "SpillForgeModel$Wrong" ∧ w = va_pl P673449 F673448 ∧ rSub P672929 P673449 ∧ rFr [q672932, q672931] P672929 F672930 F673448 ∧ q ∈ P673449 ∧ q ∉ P672929 ∧ wrF F673448 q ∧ dc ≤ (16 * (p672934.toInt - p672935.toInt)).toNat + 9 ∧ ds ≤ (160 * (p672934.toInt - p672935.toInt)).toNat + 71 ∧ rkR (F673448 q672932) ∧ tx_RReader_row p672934 p672935 p672936 p672938 p672949 p672950 p672952 p672953 f672954 xt672955
set_option maxRecDepth 100000 in
set_option maxHeartbeats 4000000 in
theorem cp_672964_Reader_row (l : Launch) (hl0 : l.stackTraces = false) (D : va_G) (I : FieldType → ClassId) (P672929 : List Nat) (F672930 : Nat → va_E) (q672931 : Nat) (q672932 : Nat) (q672933 : Nat) (p672934 : Int32) (p672935 : Int32) (p672936 : Int32) (p672937 : Int32) (p672938 : Int32) (p672939 : Int32) (qo672940 : Nat) (p672941 : Int32) (p672942 : Int32) (p672943 : Int32) (qo672944 : Nat) (qo672945 : Nat) (p672946 : Int32) (p672947 : Int32) (p672948 : Int32) (p672949 : Int32) (p672950 : Int32) (p672951 : Int32) (p672952 : Int32) (p672953 : Int32) (f672954 : Nat → Int32) (xt672955 : gTx) (hmq672931 : q672931 ∈ P672929) (hmq672932 : q672932 ∈ P672929) (hmq672933 : q672933 ∈ P672929) (heq672931 : F672930 q672931 = .inr (19, [.ref q672933, .int p672934, .int p672935, .int p672936, .int p672937, .int p672938, .int p672939, .ref qo672940, .int p672941, .int p672942, .int p672943, .ref qo672944, .ref qo672945, .int p672946])) (heq672932 : F672930 q672932 = .inr (20, [.int p672947, .int p672948, .int p672949, .int p672950, .int p672951, .int p672952, .int p672953])) (heq672933 : F672930 q672933 = .inl (I .byte, 8192, .inl f672954)) (bp672934 : gB p672934 0 8192) (bp672935 : gB p672935 0 8192) (bp672936 : gB p672936 0 6) (bp672937 : gB p672937 0 8192) (bp672939 : gB p672939 0 6) (bp672941 : gB p672941 (-1) 8192) (bp672942 : gB p672942 0 4) (bp672943 : gB p672943 0 1000000) (bp672946 : gB p672946 0 1000000) (bp672947 : gB p672947 0 32) (bp672948 : gB p672948 0 1999) (bp672951 : gB p672951 0 1999) (bp672952 : gB p672952 0 1) (bp672953 : gB p672953 0 1) (bf672954 : gF f672954 (-128) 127) (x672956 : p672935.toInt ≤ p672934.toInt) (x672957 : qo672945 ∈ P672929) (x672958 : qo672944 ∈ P672929) (x672959 : tP I P672929 F672930 p672936 qo672940 qo672945 qo672944 xt672955) (x672960 : vP p672936 p672938) (x672961 : rwP p672952 p672949) (x672962 : rwP p672953 p672950) (x672963 : opP p672947) : CtA (gV D I) l yX14_row cX14_row 2 none 9 200 ((16 * (p672934.toInt - p672935.toInt)).toNat + 9) ((160 * (p672934.toInt - p672935.toInt)).toNat + 71) [.ref q672931, .ref q672932] (va_pl P672929 F672930) (pp_672964_Reader_row D I P672929 F672930 q672931 q672932 q672933 p672934 p672935 p672936 p672937 p672938 p672939 qo672940 p672941 p672942 p672943 qo672944 qo672945 p672946 p672947 p672948 p672949 p672950 p672951 p672952 p672953 f672954 xt672955) (xp_672964_Reader_row D I P672929 F672930 q672931 q672932 q672933 p672934 p672935 p672936 p672937 p672938 p672939 qo672940 p672941 p672942 p672943 qo672944 qo672945 p672946 p672947 p672948 p672949 p672950 p672951 p672952 p672953 f672954 xt672955) := by
  refine CtA_of hl0 (by decide) (Nat.le_of_ble_eq_true rfl) ?_
  have bp672938 := gB_any p672938
  have bp672949 := gB_any p672949
  have bp672950 := gB_any p672950
  refine G_aload_n 0 dr_cX14_row_0 rfl ?_
  refine G_ldcK (a := D.2 1000 39) dr_cX14_row_1 (fun _ _ _ h => gx_vk 39 rfl rfl h) ?_
  have hl39_672964 : (sb_39.length : Int) = 4 := rfl
  refine Gw_callV (As := [.ref (D.2 1000 39)]) (gV_ok D I) (cp_671612_Reader_is l hl0 D I P672929 F672930 q672931 q672933 (D.2 1000 39) (D.2 1001 39) sb_39 p672934 p672935 p672936 p672937 p672938 p672939 qo672940 p672941 p672942 p672943 qo672944 qo672945 p672946 f672954 xt672955 hmq672931 hmq672933 heq672931 heq672933 (gx_sc 39 rfl rfl) (by omega) (by decide +kernel) bp672934 bp672935 bp672936 bp672937 bp672939 bp672941 bp672942 bp672943 bp672946 bf672954 x672959) dr_cX14_row_3 ⟨wr_9_141, wr_1_32, wr_9_144, by decide, rfl, (Nat.le_of_ble_eq_true rfl), (Nat.le_of_ble_eq_true rfl)⟩ wr_9_143 wr_p_84 hmq672931 heq672931 rfl (show 0 + 0 ≤ ((16 * (p672934.toInt - p672935.toInt)).toNat + 9) by first | omega | decide) (show 0 + 0 ≤ ((160 * (p672934.toInt - p672935.toInt)).toNat + 71) by first | omega | decide) (Nat.le_of_ble_eq_true rfl) (fun r672969 w672970 dc672966 ds672967 hp672968 => ?_) (fun _ _ _ _ _ z => z.elim)
  obtain ⟨o672971, rfl, rfl, hdc, hds, bo672971, x672972, ht672973⟩ := hp672968
  change G _ _ _ _ _ _ _ (.int o672971 :: _) _ _ _
  refine G_widen (cs' := 0) (sl' := 0) (by omega) (by omega) ?_
  refine G_if_eq 26 dr_cX14_row_6 (by decide +kernel) (fun hc672974 => ?_) (fun hc672974 => ?_)
  · have r672975 : o672971.toInt = 0 := gj_eq hc672974 (show Int32.toInt 0 = 0 by decide)
    have bo672971' : gB o672971 0 0 := ⟨by omega, by omega⟩
    refine G_aload_n 1 dr_cX14_row_26 rfl ?_
    refine G_aload_n 0 dr_cX14_row_27 rfl ?_
    refine G_iconst 2 dr_cX14_row_28 (by decide +kernel) ?_
    refine Gw_callV (As := [.int 2]) (gV_ok D I) (cp_671789_Reader_want l hl0 D I P672929 F672930 q672931 q672933 2 p672934 p672935 p672936 p672937 p672938 p672939 qo672940 p672941 p672942 p672943 qo672944 qo672945 p672946 f672954 xt672955 hmq672931 hmq672933 heq672931 heq672933 (gB_w (gBl (show Int32.toInt 2 = 2 by decide)) (by decide) (by decide)) bp672934 bp672935 bp672936 bp672937 bp672939 bp672941 bp672942 bp672943 bp672946 bf672954 (by omega) x672957 x672958 x672959 x672960) dr_cX14_row_29 ⟨wr_9_93, wr_1_32, wr_9_96, by decide, rfl, (Nat.le_of_ble_eq_true rfl), (Nat.le_of_ble_eq_true rfl)⟩ wr_9_95 wr_p_80 hmq672931 heq672931 rfl (show 0 + ((16 * (p672934.toInt - p672935.toInt)).toNat + 1) ≤ ((16 * (p672934.toInt - p672935.toInt)).toNat + 9) by first | omega | decide) (show 0 + ((160 * (p672934.toInt - p672935.toInt)).toNat + 7) ≤ ((160 * (p672934.toInt - p672935.toInt)).toNat + 71) by first | omega | decide) (Nat.le_of_ble_eq_true rfl) (fun r672979 w672980 dc672976 ds672977 hp672978 => ?_) (fun _ qx672992 _ dc672990 ds672991 hx => by obtain ⟨P672988, F672989, rfl, rfl, hsb672981, hfr672982, hq672983, hqn672984, hwr672985, hdc672986, hds672987, ht672993⟩ := hx; exact GT_outA rfl (show 0 + dc672990 ≤ ((16 * (p672934.toInt - p672935.toInt)).toNat + 9) by omega) (show 0 + ds672991 ≤ ((160 * (p672934.toInt - p672935.toInt)).toNat + 71) by omega) ⟨P672988, F672989, rfl, rfl, (rSub_tr (rSub_rf (P := P672929)) hsb672981), (rFr_v (show rFr [] P672929 F672930 F672989 from rFr_call (rSub_rf (P := P672929)) (rFr_rf (W := []) (P := P672929) (F := F672930)) hfr672982 (fun b hb hn => ⟨nm_n, nm_n⟩)) (fun b hn => nm_n)), hq672983, (fun z => hqn672984 ((rSub_rf (P := P672929)) _ z)), hwr672985, (by omega), (by omega), ⟨p672947, p672948, p672949, p672950, p672951, p672952, p672953, ((hfr672982 q672932 hmq672932 nm_n).trans heq672932), bp672947, bp672948, bp672951, bp672952, bp672953, x672963, x672961, x672962⟩, (fun R c1 c2 c3 c4 c5 => c1 o672971 bo672971 ht672973 r672975 ht672993)⟩)
    obtain ⟨P673008, F673009, o672994, o672995, o672996, o672997, q672998, xt673007, rfl, rfl, hsb673010, hfr673011, he673012, he673013, hdc, hds, bo672994, bo672995, bo672996, x672999, x673000, x673001, x673002, x673003, x673004, x673005, ht673006⟩ := hp672978
    have hm673014 : q672931 ∈ P673008 := hsb673010 q672931 hmq672931
    have hm673015 : q672932 ∈ P673008 := hsb673010 q672932 hmq672932
    have hm673016 : q672933 ∈ P673008 := hsb673010 q672933 hmq672933
    have hsb673017 : rSub P672929 P673008 := rSub_tr (rSub_rf (P := P672929)) hsb673010
    have he673018 : F673009 q672932 = .inr (20, [.int p672947, .int p672948, .int p672949, .int p672950, .int p672951, .int p672952, .int p672953]) := (hfr673011 q672932 hmq672932 (nm_c (rn_oo heq672932 heq672931 (by decide)) nm_n)).trans heq672932
    have hfr673019 : rFr [q672931] P672929 F672930 F673009 := rFr_call (rSub_rf (P := P672929)) (rFr_rf (W := []) (P := P672929) (F := F672930)) hfr673011 (fun b hb hn => ⟨nm_n, (nm_c (fun e => hn (e ▸ List.mem_cons_self)) nm_n)⟩)
    have bo672997 := gB_any o672997
    rw [show Int32.toInt 2 = 2 from by decide] at x673005
    change G _ _ _ _ _ _ _ (.int p672938 :: _) _ _ _
    refine G_widen (cs' := (16 * (o672994.toInt - p672935.toInt)).toNat) (sl' := (160 * (o672994.toInt - p672935.toInt)).toNat) (by omega) (by omega) ?_
    have bv673020 : gB p672938 0 99 := vP_g2 x673004
    have x673021 : p672935.toInt ≤ o672994.toInt := by omega
    have x673022 : p672935.toInt + 0 ≤ p672935.toInt := by omega
    have x673023 : p672935.toInt + 0 ≤ o672994.toInt := by omega
    have x673024 : prQ o672995 (p672935.toInt + 1) o672994 := prP_q x673000 x673022 (by omega)
    refine G_widen (cs' := (16 * (o672994.toInt - p672935.toInt) + 0 : Int).toNat) (sl' := (160 * (o672994.toInt - p672935.toInt) + 0 : Int).toNat) (by omega) (by omega) ?_
    refine Gp_put 1 hm673015 he673018 dr_cX14_row_32 (gk_X15 D I) (Nat.le_of_ble_eq_true rfl) wr_9_183 rfl rfl rfl (Nat.le_of_ble_eq_true rfl) (fun F673025 e673026 n673027 => ?_)
    have he673028 : F673025 q672931 = .inr (19, [.ref q672933, .int p672934, .int o672994, .int o672995, .int o672996, .int o672997, .int p672936, .ref q672998, .int p672941, .int p672942, .int p672943, .ref qo672944, .ref qo672945, .int p672946]) := (n673027 q672931 (rn_oo he673012 he673018 (by decide))).trans he673012
    have he673029 : F673025 q672933 = .inl (I .byte, 8192, .inl f672954) := (n673027 q672933 (rn_ao he673013 he673018)).trans he673013
    have he673030 : F673025 q672932 = .inr (20, [.int p672947, .int p672938, .int p672949, .int p672950, .int p672951, .int p672952, .int p672953]) := e673026
    have hfr673031 : rFr [q672932, q672931] P672929 F672930 F673025 := rFr_put hfr673019 n673027
    have tp673032 : tP I P673008 F673025 o672995 q672998 qo672945 qo672944 xt673007 := tP_put x673002 he673018 (by decide) n673027
    clear hsb673010 hfr673011 he673012 he673013 he673018 hfr673019; try clear r672969; try clear w672970; try clear dc672966; try clear ds672967; try clear hp672968; try clear r672979; try clear w672980; try clear dc672976; try clear ds672977; try clear hp672978
    refine G_aload_n 0 dr_cX14_row_35 rfl ?_
    refine G_ldcK (a := D.2 1000 40) dr_cX14_row_36 (fun _ _ _ h => gx_vk 40 rfl rfl h) ?_
    have hl40_673032 : (sb_40.length : Int) = 1 := rfl
    refine Gw_callV (As := [.ref (D.2 1000 40)]) (gV_ok D I) (cp_671694_Reader_want l hl0 D I P673008 F673025 q672931 q672933 (D.2 1000 40) (D.2 1001 40) sb_40 p672934 o672994 o672995 o672996 o672997 p672936 q672998 p672941 p672942 p672943 qo672944 qo672945 p672946 f672954 xt673007 hm673014 hm673016 he673028 he673029 (gx_sc 40 rfl rfl) (by omega) (by decide +kernel) bp672934 bo672994 bo672995 bo672996 bp672936 bp672941 bp672942 bp672943 bp672946 bf672954 (by omega) (hsb673017 _ x672957) (hsb673017 _ x672958) tp673032) dr_cX14_row_38 ⟨wr_9_137, wr_1_32, wr_9_140, by decide, rfl, (Nat.le_of_ble_eq_true rfl), (Nat.le_of_ble_eq_true rfl)⟩ wr_9_139 wr_p_83 hm673014 he673028 rfl (show (16 * (o672994.toInt - p672935.toInt) + 0 : Int).toNat + ((16 * (p672934.toInt - o672994.toInt)).toNat + 1) ≤ ((16 * (p672934.toInt - p672935.toInt)).toNat + 9) by first | omega | decide) (show (160 * (o672994.toInt - p672935.toInt) + 0 : Int).toNat + ((160 * (p672934.toInt - o672994.toInt)).toNat + 7) ≤ ((160 * (p672934.toInt - p672935.toInt)).toNat + 71) by first | omega | decide) (Nat.le_of_ble_eq_true rfl) (fun r673037 w673038 dc673034 ds673035 hp673036 => ?_) (fun _ qx673050 _ dc673048 ds673049 hx => by obtain ⟨P673046, F673047, rfl, rfl, hsb673039, hfr673040, hq673041, hqn673042, hwr673043, hdc673044, hds673045, ht673051⟩ := hx; exact GT_outA rfl (show (16 * (o672994.toInt - p672935.toInt) + 0 : Int).toNat + dc673048 ≤ ((16 * (p672934.toInt - p672935.toInt)).toNat + 9) by omega) (show (160 * (o672994.toInt - p672935.toInt) + 0 : Int).toNat + ds673049 ≤ ((160 * (p672934.toInt - p672935.toInt)).toNat + 71) by omega) ⟨P673046, F673047, rfl, rfl, (rSub_tr hsb673017 hsb673039), (show rFr [q672932, q672931] P672929 F672930 F673047 from rFr_call hsb673017 hfr673031 hfr673040 (fun b hb hn => ⟨(nm_c (fun e => hn (e ▸ List.mem_cons_self)) (nm_c (fun e => hn (e ▸ (List.mem_cons_of_mem _ List.mem_cons_self))) nm_n)), nm_n⟩)), hq673041, (fun z => hqn673042 (hsb673017 _ z)), hwr673043, (by omega), (by omega), ⟨p672947, p672938, p672949, p672950, p672951, p672952, p672953, ((hfr673040 q672932 hm673015 nm_n).trans he673030), bp672947, (gB_w bv673020 (by decide) (by decide)), bp672951, bp672952, bp672953, x672963, x672961, x672962⟩, (fun R c1 c2 c3 c4 c5 => c2 o672971 xt673007 o672994 o672995 o672996 o672997 bo672971 ht672973 r672975 bo672994 bo672995 bo672996 ht673006 ht673051)⟩)
    obtain ⟨P673065, F673066, o673052, o673053, o673054, o673055, q673056, xt673064, rfl, rfl, hsb673067, hfr673068, he673069, he673070, hdc, hds, bo673052, bo673053, bo673054, x673057, x673058, x673059, x673060, x673061, x673062, ht673063⟩ := hp673036
    have hm673071 : q672931 ∈ P673065 := hsb673067 q672931 hm673014
    have hm673072 : q672932 ∈ P673065 := hsb673067 q672932 hm673015
    have hm673073 : q672933 ∈ P673065 := hsb673067 q672933 hm673016
    have hsb673074 : rSub P672929 P673065 := rSub_tr hsb673017 hsb673067
    have he673075 : F673066 q672932 = .inr (20, [.int p672947, .int p672938, .int p672949, .int p672950, .int p672951, .int p672952, .int p672953]) := (hfr673068 q672932 hm673015 (nm_c (rn_oo he673030 he673028 (by decide)) nm_n)).trans he673030
    have hfr673076 : rFr [q672932, q672931] P672929 F672930 F673066 := rFr_call hsb673017 hfr673031 hfr673068 (fun b hb hn => ⟨(nm_c (fun e => hn (e ▸ List.mem_cons_self)) (nm_c (fun e => hn (e ▸ (List.mem_cons_of_mem _ List.mem_cons_self))) nm_n)), (nm_c (fun e => hn (e ▸ (List.mem_cons_of_mem _ List.mem_cons_self))) nm_n)⟩)
    have bo673055 := gB_any o673055
    change G _ _ _ _ _ _ _ _ _ _ _
    refine G_widen (cs' := (16 * (o672994.toInt - p672935.toInt) + 0 : Int).toNat + ((16 * (o673052.toInt - o672994.toInt)).toNat)) (sl' := (160 * (o672994.toInt - p672935.toInt) + 0 : Int).toNat + ((160 * (o673052.toInt - o672994.toInt)).toNat)) (by omega) (by omega) ?_
    have x673077 : p672935.toInt ≤ o673052.toInt := by omega
    have x673078 : p672935.toInt + 1 ≤ o672994.toInt := by have q := (prQ_le x673024 x673062); omega
    have x673079 : p672935.toInt + 1 ≤ o673052.toInt := by omega
    have x673080 : prQ o673053 (p672935.toInt + 2) o673052 := prP_q x673058 x673078 (by omega)
    refine G_widen (cs' := (16 * (o673052.toInt - p672935.toInt) + 0 : Int).toNat) (sl' := (160 * (o673052.toInt - p672935.toInt) + 0 : Int).toNat) (by omega) (by omega) ?_
    clear hm673014 hm673015 hm673016 hsb673017 he673028 he673029 he673030 hfr673031 hsb673067 hfr673068; try clear r673037; try clear w673038; try clear dc673034; try clear ds673035; try clear hp673036
    refine G_aload_n 0 dr_cX14_row_41 rfl ?_
    refine G_ldcK (a := D.2 1000 41) dr_cX14_row_42 (fun _ _ _ h => gx_vk 41 rfl rfl h) ?_
    have hl41_673080 : (sb_41.length : Int) = 2 := rfl
    refine Gw_callV (As := [.ref (D.2 1000 41)]) (gV_ok D I) (cp_671612_Reader_is l hl0 D I P673065 F673066 q672931 q672933 (D.2 1000 41) (D.2 1001 41) sb_41 p672934 o673052 o673053 o673054 o673055 o672995 q673056 p672941 p672942 p672943 qo672944 qo672945 p672946 f672954 xt673064 hm673071 hm673073 he673069 he673070 (gx_sc 41 rfl rfl) (by omega) (by decide +kernel) bp672934 bo673052 bo673053 bo673054 bo672995 bp672941 bp672942 bp672943 bp672946 bf672954 x673060) dr_cX14_row_44 ⟨wr_9_141, wr_1_32, wr_9_144, by decide, rfl, (Nat.le_of_ble_eq_true rfl), (Nat.le_of_ble_eq_true rfl)⟩ wr_9_143 wr_p_84 hm673071 he673069 rfl (show (16 * (o673052.toInt - p672935.toInt) + 0 : Int).toNat + 0 ≤ ((16 * (p672934.toInt - p672935.toInt)).toNat + 9) by first | omega | decide) (show (160 * (o673052.toInt - p672935.toInt) + 0 : Int).toNat + 0 ≤ ((160 * (p672934.toInt - p672935.toInt)).toNat + 71) by first | omega | decide) (Nat.le_of_ble_eq_true rfl) (fun r673085 w673086 dc673082 ds673083 hp673084 => ?_) (fun _ _ _ _ _ z => z.elim)
    obtain ⟨o673087, rfl, rfl, hdc, hds, bo673087, x673088, ht673089⟩ := hp673084
    change G _ _ _ _ _ _ _ (.int o673087 :: _) _ _ _
    refine G_widen (cs' := (16 * (o673052.toInt - p672935.toInt) + 0 : Int).toNat + 0) (sl' := (160 * (o673052.toInt - p672935.toInt) + 0 : Int).toNat + 0) (by omega) (by omega) ?_
    refine G_if_eq 61 dr_cX14_row_47 (by decide +kernel) (fun hc673090 => ?_) (fun hc673090 => ?_)
    · have r673091 : o673087.toInt = 0 := gj_eq hc673090 (show Int32.toInt 0 = 0 by decide)
      have bo673087' : gB o673087 0 0 := ⟨by omega, by omega⟩
      refine G_aload_n 0 dr_cX14_row_61 rfl ?_
      refine G_aload_n 1 dr_cX14_row_62 rfl ?_
      refine G_iconst 0 dr_cX14_row_63 (by decide +kernel) ?_
      refine Gw_callV (As := [.ref q672932, .int 0]) (gV_ok D I) (cp_671960_Reader_operand l hl0 D I P673065 F673066 q672931 q672932 q672933 0 p672934 o673052 o673053 o673054 o673055 o672995 q673056 p672941 p672942 p672943 qo672944 qo672945 p672946 p672947 p672938 p672949 p672950 p672951 p672952 p672953 f672954 xt673064 hm673071 hm673072 hm673073 he673069 he673075 he673070 (gB_w (gBl (show Int32.toInt 0 = 0 by decide)) (by decide) (by decide)) bp672934 bo673052 bo673053 bo673054 bo672995 bp672941 bp672942 bp672943 bp672946 bp672947 (gB_w bv673020 (by decide) (by decide)) bp672951 bp672952 bp672953 bf672954 (by omega) (hsb673074 _ x672957) (hsb673074 _ x672958) x673060 x673061 x672961 x672962 x672963) dr_cX14_row_64 ⟨wr_10_89, wr_1_32, wr_10_92, by decide, rfl, (Nat.le_of_ble_eq_true rfl), (Nat.le_of_ble_eq_true rfl)⟩ wr_10_91 wr_p_89 hm673071 he673069 rfl (show (16 * (o673052.toInt - p672935.toInt) + 0 : Int).toNat + 0 + ((16 * (p672934.toInt - o673052.toInt)).toNat + 1) ≤ ((16 * (p672934.toInt - p672935.toInt)).toNat + 9) by first | omega | decide) (show (160 * (o673052.toInt - p672935.toInt) + 0 : Int).toNat + 0 + ((160 * (p672934.toInt - o673052.toInt)).toNat + 7) ≤ ((160 * (p672934.toInt - p672935.toInt)).toNat + 71) by first | omega | decide) (Nat.le_of_ble_eq_true rfl) (fun r673095 w673096 dc673092 ds673093 hp673094 => ?_) (fun _ qx673108 _ dc673106 ds673107 hx => by obtain ⟨P673104, F673105, rfl, rfl, hsb673097, hfr673098, hq673099, hqn673100, hwr673101, hdc673102, hds673103, x673109, ht673110⟩ := hx; exact GT_outA rfl (show (16 * (o673052.toInt - p672935.toInt) + 0 : Int).toNat + 0 + dc673106 ≤ ((16 * (p672934.toInt - p672935.toInt)).toNat + 9) by omega) (show (160 * (o673052.toInt - p672935.toInt) + 0 : Int).toNat + 0 + ds673107 ≤ ((160 * (p672934.toInt - p672935.toInt)).toNat + 71) by omega) ⟨P673104, F673105, rfl, rfl, (rSub_tr hsb673074 hsb673097), (show rFr [q672932, q672931] P672929 F672930 F673105 from rFr_call hsb673074 hfr673076 hfr673098 (fun b hb hn => ⟨(nm_c (fun e => hn (e ▸ List.mem_cons_self)) (nm_c (fun e => hn (e ▸ (List.mem_cons_of_mem _ List.mem_cons_self))) nm_n)), nm_n⟩)), hq673099, (fun z => hqn673100 (hsb673074 _ z)), hwr673101, (by omega), (by omega), ⟨p672947, p672938, p672949, p672950, p672951, p672952, p672953, ((hfr673098 q672932 hm673072 nm_n).trans he673075), bp672947, (gB_w bv673020 (by decide) (by decide)), bp672951, bp672952, bp672953, x672963, x672961, x672962⟩, (fun R c1 c2 c3 c4 c5 => c3 o672971 xt673007 o672994 o672995 o672996 o672997 xt673064 o673052 o673053 o673054 o673055 o673087 bo672971 ht672973 r672975 bo672994 bo672995 bo672996 ht673006 bo673052 bo673053 bo673054 ht673063 bo673087 ht673089 r673091 ht673110)⟩)
      obtain ⟨P673130, F673131, o673111, o673112, o673113, o673114, q673115, o673116, o673117, o673118, o673119, xt673129, rfl, rfl, hsb673132, hfr673133, he673134, he673135, he673136, hdc, hds, bo673111, bo673112, bo673113, bo673118, bo673119, x673120, x673121, x673122, x673123, x673124, x673125, x673126, x673127, ht673128⟩ := hp673094
      have hm673137 : q672931 ∈ P673130 := hsb673132 q672931 hm673071
      have hm673138 : q672932 ∈ P673130 := hsb673132 q672932 hm673072
      have hm673139 : q672933 ∈ P673130 := hsb673132 q672933 hm673073
      have hsb673140 : rSub P672929 P673130 := rSub_tr hsb673074 hsb673132
      have hfr673141 : rFr [q672932, q672931] P672929 F672930 F673131 := rFr_call hsb673074 hfr673076 hfr673133 (fun b hb hn => ⟨(nm_c (fun e => hn (e ▸ List.mem_cons_self)) (nm_c (fun e => hn (e ▸ (List.mem_cons_of_mem _ List.mem_cons_self))) nm_n)), (nm_c (fun e => hn (e ▸ List.mem_cons_self)) (nm_c (fun e => hn (e ▸ (List.mem_cons_of_mem _ List.mem_cons_self))) nm_n))⟩)
      have bo673114 := gB_any o673114
      have bo673116 := gB_any o673116
      have bo673117 := gB_any o673117
      change G _ _ _ _ _ _ _ _ _ _ _
      refine G_widen (cs' := (16 * (o673052.toInt - p672935.toInt) + 0 : Int).toNat + 0 + ((16 * (o673111.toInt - o673052.toInt)).toNat)) (sl' := (160 * (o673052.toInt - p672935.toInt) + 0 : Int).toNat + 0 + ((160 * (o673111.toInt - o673052.toInt)).toNat)) (by omega) (by omega) ?_
      have x673142 : p672935.toInt ≤ o673111.toInt := by omega
      have x673143 : p672935.toInt + 2 ≤ o673052.toInt := by have q := (prQ_le x673080 x673127); omega
      have x673144 : p672935.toInt + 2 ≤ o673111.toInt := by omega
      have x673145 : prQ o673112 (p672935.toInt + 3) o673111 := prP_q x673121 x673143 (by omega)
      refine G_widen (cs' := (16 * (o673111.toInt - p672935.toInt) + 0 : Int).toNat) (sl' := (160 * (o673111.toInt - p672935.toInt) + 0 : Int).toNat) (by omega) (by omega) ?_
      clear he673069 he673070 hm673071 hm673072 hm673073 hsb673074 he673075 hfr673076 hsb673132 hfr673133; try clear r673085; try clear w673086; try clear dc673082; try clear ds673083; try clear hp673084; try clear r673095; try clear w673096; try clear dc673092; try clear ds673093; try clear hp673094
      refine G_aload_n 1 dr_cX14_row_67 rfl ?_
      refine G_aload_n 0 dr_cX14_row_68 rfl ?_
      refine Gp_get 3 hm673137 he673135 dr_cX14_row_69 (gk_X14 D I) (Nat.le_of_ble_eq_true rfl) wr_9_39 rfl ?_
      refine G_iconst 5 dr_cX14_row_72 (by decide +kernel) ?_
      refine G_icmp_ne 86 dr_cX14_row_73 (by decide +kernel) (fun hc673146 => ?_) (fun hc673146 => ?_)
      · have r673147 : o673112.toInt ≠ 5 := gj_neq hc673146 (show Int32.toInt 5 = 5 by decide)
        refine G_widen (cs' := (16 * (o673111.toInt - p672935.toInt) + 8 : Int).toNat) (sl' := (160 * (o673111.toInt - p672935.toInt) + 64 : Int).toNat) (by omega) (by omega) ?_
        refine G_iconst 0 dr_cX14_row_86 (by decide +kernel) ?_
        refine Gp_put 0 hm673138 he673134 dr_cX14_row_87 (gk_X15 D I) (Nat.le_of_ble_eq_true rfl) wr_9_179 rfl rfl rfl (Nat.le_of_ble_eq_true rfl) (fun F673148 e673149 n673150 => ?_)
        have he673151 : F673148 q672931 = .inr (19, [.ref q672933, .int p672934, .int o673111, .int o673112, .int o673113, .int o673114, .int o673053, .ref q673115, .int p672941, .int p672942, .int p672943, .ref qo672944, .ref qo672945, .int p672946]) := (n673150 q672931 (rn_oo he673135 he673134 (by decide))).trans he673135
        have he673152 : F673148 q672933 = .inl (I .byte, 8192, .inl f672954) := (n673150 q672933 (rn_ao he673136 he673134)).trans he673136
        have he673153 : F673148 q672932 = .inr (20, [.int 0, .int p672938, .int o673116, .int o673117, .int p672951, .int o673118, .int o673119]) := e673149
        have hfr673154 : rFr [q672932, q672931] P672929 F672930 F673148 := rFr_put' List.mem_cons_self hfr673141 n673150
        have tp673155 : tP I P673130 F673148 o673112 q673115 qo672945 qo672944 xt673129 := tP_put x673123 he673134 (by decide) n673150
        clear he673134 he673135 he673136 hfr673141
        refine G_aload_n 1 dr_cX14_row_90 rfl ?_
        refine Gp_get 0 hm673138 he673153 dr_cX14_row_91 (gk_X15 D I) (Nat.le_of_ble_eq_true rfl) wr_9_179 rfl ?_
        refine G_if_ne 98 dr_cX14_row_94 (by decide +kernel) (fun hc => absurd hc (by decide)) (fun _ => ?_)
        exact G_vretA dr_cX14_row_97 rfl (show (16 * (o673111.toInt - p672935.toInt) + 8 : Int).toNat ≤ ((16 * (p672934.toInt - p672935.toInt)).toNat + 9) by omega) (show (160 * (o673111.toInt - p672935.toInt) + 64 : Int).toNat ≤ ((160 * (p672934.toInt - p672935.toInt)).toNat + 71) by omega) ⟨P673130, F673148, o673111, o673112, o673113, o673114, o673053, q673115, 0, p672938, o673116, o673117, o673118, o673119, xt673129, rfl, rfl, hsb673140, hfr673154, he673153, he673151, he673152, (by omega), (by omega), bo673111, bo673112, bo673113, bo673053, (gB_w (gBl (show Int32.toInt 0 = 0 by decide)) (by decide) (by decide)), (gB_w bv673020 (by decide) (by decide)), bo673118, bo673119, (by have qa0 : Int32.toInt 0 = 0 := (by decide); omega), (prP_le x673121 (by omega)), (by have qa0 : Int32.toInt 0 = 0 := (by decide); omega), tp673155, x673124, x673125, x673126, (Or.inl (by decide)), (Or.inl (by decide)), (show nzK p672936 by unfold nzK; omega), ⟨by omega, Or.inr (by omega)⟩, (fun R c1 c2 c3 c4 c5 => c1 o672971 xt673007 o672994 o672995 o672996 o672997 xt673064 o673052 o673053 o673054 o673055 o673087 xt673129 o673111 o673112 o673113 o673114 o673116 o673117 o673118 o673119 bo672971 ht672973 r672975 bo672994 bo672995 bo672996 ht673006 bo673052 bo673053 bo673054 ht673063 bo673087 ht673089 r673091 bo673111 bo673112 bo673113 bo673118 bo673119 ht673128 r673147)⟩
      · have r673156 : o673112.toInt = 5 := gj_eq hc673146 (show Int32.toInt 5 = 5 by decide)
        have bo673112' : gB o673112 5 5 := ⟨by omega, by omega⟩
        refine G_aload_n 0 dr_cX14_row_76 rfl ?_
        refine Gp_get 7 hm673137 he673135 dr_cX14_row_77 (gk_X14 D I) (Nat.le_of_ble_eq_true rfl) wr_9_43 rfl ?_
        obtain ⟨q673157, p673158, p673159, hm673160, he673161, hm673162, he673163, bq673157, x673164, bp673159, hg673165, hg673166⟩ := x673123.2 (by omega)
        have bp673158 := gB_any p673158
        refine Gw_callSN (As := [.ref q673115]) (gV_ok D I) (cp_672200_SpillForgeModel_operation l hl0 D I P673130 F673131 q673115 q673157 p673158 p673159 xt673129.2 xt673129.1 hm673160 hm673162 he673161 he673163 bp673159 bq673157 (by have qa0 : Int32.toInt 0 = 0 := (by decide); omega) (by have qa0 : Int32.toInt 0 = 0 := (by decide); omega)) dr_cX14_row_80 ⟨(fun _ _ _ h => gn_w 81 rfl h), wr_1_14, wr_10_97, by decide, rfl, (Nat.le_of_ble_eq_true rfl), (Nat.le_of_ble_eq_true rfl)⟩ wr_10_96 (show (16 * (o673111.toInt - p672935.toInt) + 0 : Int).toNat + 8 ≤ ((16 * (p672934.toInt - p672935.toInt)).toNat + 9) by first | omega | decide) (show (160 * (o673111.toInt - p672935.toInt) + 0 : Int).toNat + 64 ≤ ((160 * (p672934.toInt - p672935.toInt)).toNat + 71) by first | omega | decide) (Nat.le_of_ble_eq_true rfl) (fun r673170 w673171 dc673167 ds673168 hp673169 => ?_)
        obtain ⟨P673176, F673177, o673172, rfl, rfl, hsb673178, hfr673179, he673180, he673181, hdc, hds, bo673172, x673173, x673174, ht673175⟩ := hp673169
        have hm673182 : q672931 ∈ P673176 := hsb673178 q672931 hm673137
        have hm673183 : q672932 ∈ P673176 := hsb673178 q672932 hm673138
        have hm673184 : q672933 ∈ P673176 := hsb673178 q672933 hm673139
        have hm673185 : q673115 ∈ P673176 := hsb673178 q673115 hm673160
        have hm673186 : q673157 ∈ P673176 := hsb673178 q673157 hm673162
        have hsb673187 : rSub P672929 P673176 := rSub_tr hsb673140 hsb673178
        have he673188 : F673177 q672932 = .inr (20, [.int p672947, .int p672938, .int o673116, .int o673117, .int p672951, .int o673118, .int o673119]) := (hfr673179 q672932 hm673138 nm_n).trans he673134
        have he673189 : F673177 q672931 = .inr (19, [.ref q672933, .int p672934, .int o673111, .int o673112, .int o673113, .int o673114, .int o673053, .ref q673115, .int p672941, .int p672942, .int p672943, .ref qo672944, .ref qo672945, .int p672946]) := (hfr673179 q672931 hm673137 nm_n).trans he673135
        have he673190 : F673177 q672933 = .inl (I .byte, 8192, .inl f672954) := (hfr673179 q672933 hm673139 nm_n).trans he673136
        have hfr673191 : rFr [q672932, q672931] P672929 F672930 F673177 := rFr_call hsb673140 hfr673141 hfr673179 (fun b hb hn => ⟨(nm_c (fun e => hn (e ▸ List.mem_cons_self)) (nm_c (fun e => hn (e ▸ (List.mem_cons_of_mem _ List.mem_cons_self))) nm_n)), nm_n⟩)
        have tp673192 : tP I P673176 F673177 o673112 q673115 qo672945 qo672944 xt673129 := tP_new x673123 hsb673178 (fun b hb => hfr673179 b hb (fun z => by cases z)) (Or.inl rfl) (Or.inl rfl)
        change G _ _ _ _ _ _ _ (.int o673172 :: _) _ _ _
        refine G_widen (cs' := (16 * (o673111.toInt - p672935.toInt) + 0 : Int).toNat + 8) (sl' := (160 * (o673111.toInt - p672935.toInt) + 0 : Int).toNat + 64) (by omega) (by omega) ?_
        refine G_widen (cs' := (16 * (o673111.toInt - p672935.toInt) + 8 : Int).toNat) (sl' := (160 * (o673111.toInt - p672935.toInt) + 64 : Int).toNat) (by omega) (by omega) ?_
        refine G_goto 87 dr_cX14_row_83 (by decide +kernel) ?_
        refine Gp_put 0 hm673183 he673188 dr_cX14_row_87 (gk_X15 D I) (Nat.le_of_ble_eq_true rfl) wr_9_179 rfl rfl rfl (Nat.le_of_ble_eq_true rfl) (fun F673193 e673194 n673195 => ?_)
        have he673196 : F673193 q672931 = .inr (19, [.ref q672933, .int p672934, .int o673111, .int o673112, .int o673113, .int o673114, .int o673053, .ref q673115, .int p672941, .int p672942, .int p672943, .ref qo672944, .ref qo672945, .int p672946]) := (n673195 q672931 (rn_oo he673189 he673188 (by decide))).trans he673189
        have he673197 : F673193 q672933 = .inl (I .byte, 8192, .inl f672954) := (n673195 q672933 (rn_ao he673190 he673188)).trans he673190
        have he673198 : F673193 q673115 = .inr (0, [.ref q673157, .int 0, .int p673158, .int p673159]) := (n673195 q673115 (rn_oo he673180 he673188 (by decide))).trans he673180
        have he673199 : F673193 q673157 = .inl (I .byte, xt673129.1, .inl xt673129.2) := (n673195 q673157 (rn_ao he673181 he673188)).trans he673181
        have he673200 : F673193 q672932 = .inr (20, [.int o673172, .int p672938, .int o673116, .int o673117, .int p672951, .int o673118, .int o673119]) := e673194
        have hfr673201 : rFr [q672932, q672931] P672929 F672930 F673193 := rFr_put' List.mem_cons_self hfr673191 n673195
        have tp673202 : tP I P673176 F673193 o673112 q673115 qo672945 qo672944 xt673129 := tP_put tp673192 he673188 (by decide) n673195
        clear he673134 he673135 he673136 hm673137 hm673138 hm673139 hsb673140 hfr673141 hm673160 he673161 hm673162 he673163 hg673165 hg673166 hsb673178 hfr673179 he673180 he673181 he673188 he673189 he673190 hfr673191; try clear r673170; try clear w673171; try clear dc673167; try clear ds673168; try clear hp673169
        refine G_aload_n 1 dr_cX14_row_90 rfl ?_
        refine Gp_get 0 hm673183 he673200 dr_cX14_row_91 (gk_X15 D I) (Nat.le_of_ble_eq_true rfl) wr_9_179 rfl ?_
        refine G_if_ne 98 dr_cX14_row_94 (by decide +kernel) (fun hc673203 => ?_) (fun hc673203 => ?_)
        · have r673204 : o673172.toInt ≠ 0 := gj_neq hc673203 (show Int32.toInt 0 = 0 by decide)
          have bo673172' : gB o673172 1 14 := ⟨by omega, by omega⟩
          refine G_aload_n 0 dr_cX14_row_98 rfl ?_
          refine Gw_callV (As := []) (gV_ok D I) (cp_669625_Reader_next l hl0 D I P673176 F673193 q672931 q672933 p672934 o673111 o673112 o673113 o673114 o673053 q673115 p672941 p672942 p672943 qo672944 qo672945 p672946 f672954 hm673182 hm673184 he673196 he673197 bp672934 bo673111 (gB_w bo673112' (by decide) (by decide)) bo673113 bo673053 bp672941 bp672942 bp672943 bp672946 bf672954 (by have qa0 : Int32.toInt 0 = 0 := (by decide); omega) (hsb673187 _ x672957) (hsb673187 _ x672958)) dr_cX14_row_99 ⟨wr_7_215, wr_1_32, wr_7_218, by decide, rfl, (Nat.le_of_ble_eq_true rfl), (Nat.le_of_ble_eq_true rfl)⟩ wr_7_217 wr_p_75 hm673182 he673196 rfl (show (16 * (o673111.toInt - p672935.toInt) + 8 : Int).toNat + ((16 * (p672934.toInt - o673111.toInt)).toNat) ≤ ((16 * (p672934.toInt - p672935.toInt)).toNat + 9) by first | omega | decide) (show (160 * (o673111.toInt - p672935.toInt) + 64 : Int).toNat + ((160 * (p672934.toInt - o673111.toInt)).toNat) ≤ ((160 * (p672934.toInt - p672935.toInt)).toNat + 71) by first | omega | decide) (Nat.le_of_ble_eq_true rfl) (fun r673208 w673209 dc673205 ds673206 hp673207 => ?_) (fun _ _ _ _ _ z => z.elim)
          obtain ⟨P673222, F673223, o673210, o673211, o673212, o673213, q673214, xt673221, rfl, rfl, hsb673224, hfr673225, he673226, he673227, hdc, hds, bo673210, bo673211, bo673212, x673215, x673216, x673217, x673218, x673219, ht673220⟩ := hp673207
          have hm673228 : q672931 ∈ P673222 := hsb673224 q672931 hm673182
          have hm673229 : q672932 ∈ P673222 := hsb673224 q672932 hm673183
          have hm673230 : q672933 ∈ P673222 := hsb673224 q672933 hm673184
          have hm673231 : q673115 ∈ P673222 := hsb673224 q673115 hm673185
          have hm673232 : q673157 ∈ P673222 := hsb673224 q673157 hm673186
          have hsb673233 : rSub P672929 P673222 := rSub_tr hsb673187 hsb673224
          have he673234 : F673223 q672932 = .inr (20, [.int o673172, .int p672938, .int o673116, .int o673117, .int p672951, .int o673118, .int o673119]) := (hfr673225 q672932 hm673183 (nm_c (rn_oo he673200 he673196 (by decide)) nm_n)).trans he673200
          have he673235 : F673223 q673115 = .inr (0, [.ref q673157, .int 0, .int p673158, .int p673159]) := (hfr673225 q673115 hm673185 (nm_c (rn_oo he673198 he673196 (by decide)) nm_n)).trans he673198
          have he673236 : F673223 q673157 = .inl (I .byte, xt673129.1, .inl xt673129.2) := (hfr673225 q673157 hm673186 (nm_c (rn_ao he673199 he673196) nm_n)).trans he673199
          have hfr673237 : rFr [q672932, q672931] P672929 F672930 F673223 := rFr_call hsb673187 hfr673201 hfr673225 (fun b hb hn => ⟨(nm_c (fun e => hn (e ▸ List.mem_cons_self)) (nm_c (fun e => hn (e ▸ (List.mem_cons_of_mem _ List.mem_cons_self))) nm_n)), (nm_c (fun e => hn (e ▸ (List.mem_cons_of_mem _ List.mem_cons_self))) nm_n)⟩)
          have bo673213 := gB_any o673213
          change G _ _ _ _ _ _ _ _ _ _ _
          refine G_widen (cs' := (16 * (o673111.toInt - p672935.toInt) + 8 : Int).toNat + ((16 * (o673210.toInt - o673111.toInt)).toNat)) (sl' := (160 * (o673111.toInt - p672935.toInt) + 64 : Int).toNat + ((160 * (o673210.toInt - o673111.toInt)).toNat)) (by omega) (by omega) ?_
          have x673238 : p672935.toInt ≤ o673210.toInt := by omega
          have x673239 : p672935.toInt + 2 ≤ o673111.toInt := by have q := (prQ_le x673145 (show nzK o673112 by unfold nzK; omega)); omega
          have x673240 : p672935.toInt + 2 ≤ o673210.toInt := by omega
          have x673241 : prQ o673211 (p672935.toInt + 3) o673210 := prP_q x673216 x673239 (by omega)
          refine G_widen (cs' := (16 * (o673210.toInt - p672935.toInt) + 8 : Int).toNat) (sl' := (160 * (o673210.toInt - p672935.toInt) + 64 : Int).toNat) (by omega) (by omega) ?_
          clear bp673159 bp673158 hm673182 hm673183 hm673184 hm673185 hm673186 hsb673187 he673196 he673197 he673198 he673199 he673200 hfr673201 hsb673224 hfr673225 hm673231 hm673232 he673235 he673236; try clear x672999; try clear x673000; try clear x673001; try clear x673021; try clear x673023; try clear x673024; try clear x673057; try clear x673058; try clear x673078; try clear r673208; try clear w673209; try clear dc673205; try clear ds673206; try clear hp673207
          refine G_aload_n 0 dr_cX14_row_102 rfl ?_
          refine G_aload_n 1 dr_cX14_row_103 rfl ?_
          refine G_iconst 1 dr_cX14_row_104 (by decide +kernel) ?_
          refine Gw_callV (As := [.ref q672932, .int 1]) (gV_ok D I) (cp_671960_Reader_operand l hl0 D I P673222 F673223 q672931 q672932 q672933 1 p672934 o673210 o673211 o673212 o673213 o673112 q673214 p672941 p672942 p672943 qo672944 qo672945 p672946 o673172 p672938 o673116 o673117 p672951 o673118 o673119 f672954 xt673221 hm673228 hm673229 hm673230 he673226 he673234 he673227 (gB_w (gBl (show Int32.toInt 1 = 1 by decide)) (by decide) (by decide)) bp672934 bo673210 bo673211 bo673212 (gB_w bo673112' (by decide) (by decide)) bp672941 bp672942 bp672943 bp672946 (gB_w bo673172' (by decide) (by decide)) (gB_w bv673020 (by decide) (by decide)) bp672951 bo673118 bo673119 bf672954 (by omega) (hsb673233 _ x672957) (hsb673233 _ x672958) x673218 x673219 x673125 x673126 (opP_of (gB_w bo673172' (by decide) (by decide)))) dr_cX14_row_105 ⟨wr_10_89, wr_1_32, wr_10_92, by decide, rfl, (Nat.le_of_ble_eq_true rfl), (Nat.le_of_ble_eq_true rfl)⟩ wr_10_91 wr_p_89 hm673228 he673226 rfl (show (16 * (o673210.toInt - p672935.toInt) + 8 : Int).toNat + ((16 * (p672934.toInt - o673210.toInt)).toNat + 1) ≤ ((16 * (p672934.toInt - p672935.toInt)).toNat + 9) by first | omega | decide) (show (160 * (o673210.toInt - p672935.toInt) + 64 : Int).toNat + ((160 * (p672934.toInt - o673210.toInt)).toNat + 7) ≤ ((160 * (p672934.toInt - p672935.toInt)).toNat + 71) by first | omega | decide) (Nat.le_of_ble_eq_true rfl) (fun r673245 w673246 dc673242 ds673243 hp673244 => ?_) (fun _ qx673258 _ dc673256 ds673257 hx => by obtain ⟨P673254, F673255, rfl, rfl, hsb673247, hfr673248, hq673249, hqn673250, hwr673251, hdc673252, hds673253, x673259, ht673260⟩ := hx; exact GT_outA rfl (show (16 * (o673210.toInt - p672935.toInt) + 8 : Int).toNat + dc673256 ≤ ((16 * (p672934.toInt - p672935.toInt)).toNat + 9) by omega) (show (160 * (o673210.toInt - p672935.toInt) + 64 : Int).toNat + ds673257 ≤ ((160 * (p672934.toInt - p672935.toInt)).toNat + 71) by omega) ⟨P673254, F673255, rfl, rfl, (rSub_tr hsb673233 hsb673247), (show rFr [q672932, q672931] P672929 F672930 F673255 from rFr_call hsb673233 hfr673237 hfr673248 (fun b hb hn => ⟨(nm_c (fun e => hn (e ▸ List.mem_cons_self)) (nm_c (fun e => hn (e ▸ (List.mem_cons_of_mem _ List.mem_cons_self))) nm_n)), nm_n⟩)), hq673249, (fun z => hqn673250 (hsb673233 _ z)), hwr673251, (by omega), (by omega), ⟨o673172, p672938, o673116, o673117, p672951, o673118, o673119, ((hfr673248 q672932 hm673229 nm_n).trans he673234), (gB_w bo673172' (by decide) (by decide)), (gB_w bv673020 (by decide) (by decide)), bp672951, bo673118, bo673119, (opP_of (gB_w bo673172' (by decide) (by decide))), x673125, x673126⟩, (fun R c1 c2 c3 c4 c5 => c4 o672971 xt673007 o672994 o672995 o672996 o672997 xt673064 o673052 o673053 o673054 o673055 o673087 xt673129 o673111 o673112 o673113 o673114 o673116 o673117 o673118 o673119 o673172 xt673221 o673210 o673211 o673212 o673213 bo672971 ht672973 r672975 bo672994 bo672995 bo672996 ht673006 bo673052 bo673053 bo673054 ht673063 bo673087 ht673089 r673091 bo673111 bo673112 bo673113 bo673118 bo673119 ht673128 r673156 bo673172 ht673175 r673204 bo673210 bo673211 bo673212 ht673220 ht673260)⟩)
          obtain ⟨P673280, F673281, o673261, o673262, o673263, o673264, q673265, o673266, o673267, o673268, o673269, xt673279, rfl, rfl, hsb673282, hfr673283, he673284, he673285, he673286, hdc, hds, bo673261, bo673262, bo673263, bo673268, bo673269, x673270, x673271, x673272, x673273, x673274, x673275, x673276, x673277, ht673278⟩ := hp673244
          have hm673287 : q672931 ∈ P673280 := hsb673282 q672931 hm673228
          have hm673288 : q672932 ∈ P673280 := hsb673282 q672932 hm673229
          have hm673289 : q672933 ∈ P673280 := hsb673282 q672933 hm673230
          have hsb673290 : rSub P672929 P673280 := rSub_tr hsb673233 hsb673282
          have hfr673291 : rFr [q672932, q672931] P672929 F672930 F673281 := rFr_call hsb673233 hfr673237 hfr673283 (fun b hb hn => ⟨(nm_c (fun e => hn (e ▸ List.mem_cons_self)) (nm_c (fun e => hn (e ▸ (List.mem_cons_of_mem _ List.mem_cons_self))) nm_n)), (nm_c (fun e => hn (e ▸ List.mem_cons_self)) (nm_c (fun e => hn (e ▸ (List.mem_cons_of_mem _ List.mem_cons_self))) nm_n))⟩)
          have bo673264 := gB_any o673264
          have bo673266 := gB_any o673266
          have bo673267 := gB_any o673267
          change G _ _ _ _ _ _ _ _ _ _ _
          refine G_widen (cs' := (16 * (o673210.toInt - p672935.toInt) + 8 : Int).toNat + ((16 * (o673261.toInt - o673210.toInt)).toNat)) (sl' := (160 * (o673210.toInt - p672935.toInt) + 64 : Int).toNat + ((160 * (o673261.toInt - o673210.toInt)).toNat)) (by omega) (by omega) ?_
          have x673292 : p672935.toInt + 2 ≤ o673210.toInt := by have q := (prQ_le x673241 x673277); omega
          have x673293 : p672935.toInt + 2 ≤ o673261.toInt := by omega
          have x673294 : prQ o673262 (p672935.toInt + 3) o673261 := prP_q x673271 x673292 (by omega)
          exact G_vretA dr_cX14_row_108 rfl (show (16 * (o673210.toInt - p672935.toInt) + 8 : Int).toNat + ((16 * (o673261.toInt - o673210.toInt)).toNat) ≤ ((16 * (p672934.toInt - p672935.toInt)).toNat + 9) by omega) (show (160 * (o673210.toInt - p672935.toInt) + 64 : Int).toNat + ((160 * (o673261.toInt - o673210.toInt)).toNat) ≤ ((160 * (p672934.toInt - p672935.toInt)).toNat + 71) by omega) ⟨P673280, F673281, o673261, o673262, o673263, o673264, o673211, q673265, o673172, p672938, o673266, o673267, o673268, o673269, xt673279, rfl, rfl, hsb673290, hfr673291, he673284, he673285, he673286, (by omega), (by omega), bo673261, bo673262, bo673263, bo673211, (gB_w bo673172' (by decide) (by decide)), (gB_w bv673020 (by decide) (by decide)), bo673268, bo673269, (by omega), (prP_le x673271 (by omega)), (by omega), x673273, x673274, x673275, x673276, (opP_of (gB_w bo673172' (by decide) (by decide))), (Or.inl (by omega)), (show nzK p672936 by unfold nzK; omega), ⟨by omega, Or.inr (by omega)⟩, (fun R c1 c2 c3 c4 c5 => c2 o672971 xt673007 o672994 o672995 o672996 o672997 xt673064 o673052 o673053 o673054 o673055 o673087 xt673129 o673111 o673112 o673113 o673114 o673116 o673117 o673118 o673119 o673172 xt673221 o673210 o673211 o673212 o673213 xt673279 o673261 o673262 o673263 o673264 o673266 o673267 o673268 o673269 bo672971 ht672973 r672975 bo672994 bo672995 bo672996 ht673006 bo673052 bo673053 bo673054 ht673063 bo673087 ht673089 r673091 bo673111 bo673112 bo673113 bo673118 bo673119 ht673128 r673156 bo673172 ht673175 r673204 bo673210 bo673211 bo673212 ht673220 bo673261 bo673262 bo673263 bo673268 bo673269 ht673278)⟩
        · have r673295 : o673172.toInt = 0 := gj_eq hc673203 (show Int32.toInt 0 = 0 by decide)
          have bo673172' : gB o673172 0 0 := ⟨by omega, by omega⟩
          exact G_vretA dr_cX14_row_97 rfl (show (16 * (o673111.toInt - p672935.toInt) + 8 : Int).toNat ≤ ((16 * (p672934.toInt - p672935.toInt)).toNat + 9) by omega) (show (160 * (o673111.toInt - p672935.toInt) + 64 : Int).toNat ≤ ((160 * (p672934.toInt - p672935.toInt)).toNat + 71) by omega) ⟨P673176, F673193, o673111, o673112, o673113, o673114, o673053, q673115, o673172, p672938, o673116, o673117, o673118, o673119, (xt673129.1, xt673129.2), rfl, rfl, hsb673187, hfr673201, he673200, he673196, he673197, (by omega), (by omega), bo673111, (gB_w bo673112' (by decide) (by decide)), bo673113, bo673053, (gB_w bo673172' (by decide) (by decide)), (gB_w bv673020 (by decide) (by decide)), bo673118, bo673119, (by have qa0 : Int32.toInt 0 = 0 := (by decide); omega), (prP_le x673121 (by omega)), (by have qa0 : Int32.toInt 0 = 0 := (by decide); omega), tp673202, x673124, x673125, x673126, (opP_of (gB_w bo673172' (by decide) (by decide))), (Or.inl (by omega)), (show nzK p672936 by unfold nzK; omega), ⟨by omega, Or.inr (by omega)⟩, (fun R c1 c2 c3 c4 c5 => c3 o672971 xt673007 o672994 o672995 o672996 o672997 xt673064 o673052 o673053 o673054 o673055 o673087 xt673129 o673111 o673112 o673113 o673114 o673116 o673117 o673118 o673119 o673172 bo672971 ht672973 r672975 bo672994 bo672995 bo672996 ht673006 bo673052 bo673053 bo673054 ht673063 bo673087 ht673089 r673091 bo673111 bo673112 bo673113 bo673118 bo673119 ht673128 r673156 bo673172 ht673175 r673295)⟩
    · have r673296 : o673087.toInt ≠ 0 := gj_neq hc673090 (show Int32.toInt 0 = 0 by decide)
      have bo673087' : gB o673087 1 1 := ⟨by omega, by omega⟩
      refine G_aload_n 0 dr_cX14_row_50 rfl ?_
      refine Gw_callV (As := []) (gV_ok D I) (cp_669625_Reader_next l hl0 D I P673065 F673066 q672931 q672933 p672934 o673052 o673053 o673054 o673055 o672995 q673056 p672941 p672942 p672943 qo672944 qo672945 p672946 f672954 hm673071 hm673073 he673069 he673070 bp672934 bo673052 bo673053 bo673054 bo672995 bp672941 bp672942 bp672943 bp672946 bf672954 (by omega) (hsb673074 _ x672957) (hsb673074 _ x672958)) dr_cX14_row_51 ⟨wr_7_215, wr_1_32, wr_7_218, by decide, rfl, (Nat.le_of_ble_eq_true rfl), (Nat.le_of_ble_eq_true rfl)⟩ wr_7_217 wr_p_75 hm673071 he673069 rfl (show (16 * (o673052.toInt - p672935.toInt) + 0 : Int).toNat + 0 + ((16 * (p672934.toInt - o673052.toInt)).toNat) ≤ ((16 * (p672934.toInt - p672935.toInt)).toNat + 9) by first | omega | decide) (show (160 * (o673052.toInt - p672935.toInt) + 0 : Int).toNat + 0 + ((160 * (p672934.toInt - o673052.toInt)).toNat) ≤ ((160 * (p672934.toInt - p672935.toInt)).toNat + 71) by first | omega | decide) (Nat.le_of_ble_eq_true rfl) (fun r673300 w673301 dc673297 ds673298 hp673299 => ?_) (fun _ _ _ _ _ z => z.elim)
      obtain ⟨P673314, F673315, o673302, o673303, o673304, o673305, q673306, xt673313, rfl, rfl, hsb673316, hfr673317, he673318, he673319, hdc, hds, bo673302, bo673303, bo673304, x673307, x673308, x673309, x673310, x673311, ht673312⟩ := hp673299
      have hm673320 : q672931 ∈ P673314 := hsb673316 q672931 hm673071
      have hm673321 : q672932 ∈ P673314 := hsb673316 q672932 hm673072
      have hm673322 : q672933 ∈ P673314 := hsb673316 q672933 hm673073
      have hsb673323 : rSub P672929 P673314 := rSub_tr hsb673074 hsb673316
      have he673324 : F673315 q672932 = .inr (20, [.int p672947, .int p672938, .int p672949, .int p672950, .int p672951, .int p672952, .int p672953]) := (hfr673317 q672932 hm673072 (nm_c (rn_oo he673075 he673069 (by decide)) nm_n)).trans he673075
      have hfr673325 : rFr [q672932, q672931] P672929 F672930 F673315 := rFr_call hsb673074 hfr673076 hfr673317 (fun b hb hn => ⟨(nm_c (fun e => hn (e ▸ List.mem_cons_self)) (nm_c (fun e => hn (e ▸ (List.mem_cons_of_mem _ List.mem_cons_self))) nm_n)), (nm_c (fun e => hn (e ▸ (List.mem_cons_of_mem _ List.mem_cons_self))) nm_n)⟩)
      have bo673305 := gB_any o673305
      change G _ _ _ _ _ _ _ _ _ _ _
      refine G_widen (cs' := (16 * (o673052.toInt - p672935.toInt) + 0 : Int).toNat + 0 + ((16 * (o673302.toInt - o673052.toInt)).toNat)) (sl' := (160 * (o673052.toInt - p672935.toInt) + 0 : Int).toNat + 0 + ((160 * (o673302.toInt - o673052.toInt)).toNat)) (by omega) (by omega) ?_
      have x673326 : p672935.toInt ≤ o673302.toInt := by omega
      have x673327 : p672935.toInt + 2 ≤ o673052.toInt := by have q := (prQ_le x673080 (isK_1 x673088 (by omega))); omega
      have x673328 : p672935.toInt + 2 ≤ o673302.toInt := by omega
      have x673329 : prQ o673303 (p672935.toInt + 3) o673302 := prP_q x673308 x673327 (by omega)
      refine G_widen (cs' := (16 * (o673302.toInt - p672935.toInt) + 0 : Int).toNat) (sl' := (160 * (o673302.toInt - p672935.toInt) + 0 : Int).toNat) (by omega) (by omega) ?_
      clear he673069 he673070 hm673071 hm673072 hm673073 hsb673074 he673075 hfr673076 hsb673316 hfr673317; try clear r673085; try clear w673086; try clear dc673082; try clear ds673083; try clear hp673084; try clear r673300; try clear w673301; try clear dc673297; try clear ds673298; try clear hp673299
      refine G_aload_n 1 dr_cX14_row_54 rfl ?_
      refine G_bipush 20 dr_cX14_row_55 (by decide +kernel) ?_
      refine Gp_put 0 hm673321 he673324 dr_cX14_row_57 (gk_X15 D I) (Nat.le_of_ble_eq_true rfl) wr_9_179 rfl rfl rfl (Nat.le_of_ble_eq_true rfl) (fun F673330 e673331 n673332 => ?_)
      have he673333 : F673330 q672931 = .inr (19, [.ref q672933, .int p672934, .int o673302, .int o673303, .int o673304, .int o673305, .int o673053, .ref q673306, .int p672941, .int p672942, .int p672943, .ref qo672944, .ref qo672945, .int p672946]) := (n673332 q672931 (rn_oo he673318 he673324 (by decide))).trans he673318
      have he673334 : F673330 q672933 = .inl (I .byte, 8192, .inl f672954) := (n673332 q672933 (rn_ao he673319 he673324)).trans he673319
      have he673335 : F673330 q672932 = .inr (20, [.int 20, .int p672938, .int p672949, .int p672950, .int p672951, .int p672952, .int p672953]) := e673331
      have hfr673336 : rFr [q672932, q672931] P672929 F672930 F673330 := rFr_put' List.mem_cons_self hfr673325 n673332
      have tp673337 : tP I P673314 F673330 o673303 q673306 qo672945 qo672944 xt673313 := tP_put x673310 he673324 (by decide) n673332
      exact G_vretA dr_cX14_row_60 rfl (show (16 * (o673302.toInt - p672935.toInt) + 0 : Int).toNat ≤ ((16 * (p672934.toInt - p672935.toInt)).toNat + 9) by omega) (show (160 * (o673302.toInt - p672935.toInt) + 0 : Int).toNat ≤ ((160 * (p672934.toInt - p672935.toInt)).toNat + 71) by omega) ⟨P673314, F673330, o673302, o673303, o673304, o673305, o673053, q673306, 20, p672938, p672949, p672950, p672952, p672953, xt673313, rfl, rfl, hsb673323, hfr673336, he673335, he673333, he673334, (by omega), (by omega), bo673302, bo673303, bo673304, bo673053, (gB_w (gBl (show Int32.toInt 20 = 20 by decide)) (by decide) (by decide)), (gB_w bv673020 (by decide) (by decide)), bp672952, bp672953, (by have qa0 : Int32.toInt 20 = 20 := (by decide); omega), (prP_le x673308 (by omega)), (by have qa0 : Int32.toInt 20 = 20 := (by decide); omega), tp673337, x673311, x672961, x672962, (Or.inr (by decide)), (Or.inr (Or.inl (by decide))), (show nzK p672936 by unfold nzK; omega), ⟨by omega, Or.inr (by omega)⟩, (fun R c1 c2 c3 c4 c5 => c4 o672971 xt673007 o672994 o672995 o672996 o672997 xt673064 o673052 o673053 o673054 o673055 o673087 xt673313 o673302 o673303 o673304 o673305 bo672971 ht672973 r672975 bo672994 bo672995 bo672996 ht673006 bo673052 bo673053 bo673054 ht673063 bo673087 ht673089 r673296 bo673302 bo673303 bo673304 ht673312)⟩
  · have r673338 : o672971.toInt ≠ 0 := gj_neq hc672974 (show Int32.toInt 0 = 0 by decide)
    have bo672971' : gB o672971 1 1 := ⟨by omega, by omega⟩
    refine G_aload_n 0 dr_cX14_row_9 rfl ?_
    refine Gw_callV (As := []) (gV_ok D I) (cp_669625_Reader_next l hl0 D I P672929 F672930 q672931 q672933 p672934 p672935 p672936 p672937 p672938 p672939 qo672940 p672941 p672942 p672943 qo672944 qo672945 p672946 f672954 hmq672931 hmq672933 heq672931 heq672933 bp672934 bp672935 bp672936 bp672937 bp672939 bp672941 bp672942 bp672943 bp672946 bf672954 (by omega) x672957 x672958) dr_cX14_row_10 ⟨wr_7_215, wr_1_32, wr_7_218, by decide, rfl, (Nat.le_of_ble_eq_true rfl), (Nat.le_of_ble_eq_true rfl)⟩ wr_7_217 wr_p_75 hmq672931 heq672931 rfl (show 0 + ((16 * (p672934.toInt - p672935.toInt)).toNat) ≤ ((16 * (p672934.toInt - p672935.toInt)).toNat + 9) by first | omega | decide) (show 0 + ((160 * (p672934.toInt - p672935.toInt)).toNat) ≤ ((160 * (p672934.toInt - p672935.toInt)).toNat + 71) by first | omega | decide) (Nat.le_of_ble_eq_true rfl) (fun r673342 w673343 dc673339 ds673340 hp673341 => ?_) (fun _ _ _ _ _ z => z.elim)
    obtain ⟨P673356, F673357, o673344, o673345, o673346, o673347, q673348, xt673355, rfl, rfl, hsb673358, hfr673359, he673360, he673361, hdc, hds, bo673344, bo673345, bo673346, x673349, x673350, x673351, x673352, x673353, ht673354⟩ := hp673341
    have hm673362 : q672931 ∈ P673356 := hsb673358 q672931 hmq672931
    have hm673363 : q672932 ∈ P673356 := hsb673358 q672932 hmq672932
    have hm673364 : q672933 ∈ P673356 := hsb673358 q672933 hmq672933
    have hsb673365 : rSub P672929 P673356 := rSub_tr (rSub_rf (P := P672929)) hsb673358
    have he673366 : F673357 q672932 = .inr (20, [.int p672947, .int p672948, .int p672949, .int p672950, .int p672951, .int p672952, .int p672953]) := (hfr673359 q672932 hmq672932 (nm_c (rn_oo heq672932 heq672931 (by decide)) nm_n)).trans heq672932
    have hfr673367 : rFr [q672931] P672929 F672930 F673357 := rFr_call (rSub_rf (P := P672929)) (rFr_rf (W := []) (P := P672929) (F := F672930)) hfr673359 (fun b hb hn => ⟨nm_n, (nm_c (fun e => hn (e ▸ List.mem_cons_self)) nm_n)⟩)
    have bo673347 := gB_any o673347
    change G _ _ _ _ _ _ _ _ _ _ _
    refine G_widen (cs' := (16 * (o673344.toInt - p672935.toInt)).toNat) (sl' := (160 * (o673344.toInt - p672935.toInt)).toNat) (by omega) (by omega) ?_
    have x673368 : p672935.toInt ≤ o673344.toInt := by omega
    have x673369 : p672935.toInt + 0 ≤ p672935.toInt := by omega
    have x673370 : p672935.toInt + 0 ≤ o673344.toInt := by omega
    have x673371 : prQ o673345 (p672935.toInt + 1) o673344 := prP_q x673350 x673369 (by omega)
    refine G_widen (cs' := (16 * (o673344.toInt - p672935.toInt) + 0 : Int).toNat) (sl' := (160 * (o673344.toInt - p672935.toInt) + 0 : Int).toNat) (by omega) (by omega) ?_
    clear hsb673358 hfr673359; try clear r672969; try clear w672970; try clear dc672966; try clear ds672967; try clear hp672968; try clear r673342; try clear w673343; try clear dc673339; try clear ds673340; try clear hp673341
    refine G_aload_n 1 dr_cX14_row_13 rfl ?_
    refine G_bipush 22 dr_cX14_row_14 (by decide +kernel) ?_
    refine Gp_put 0 hm673363 he673366 dr_cX14_row_16 (gk_X15 D I) (Nat.le_of_ble_eq_true rfl) wr_9_179 rfl rfl rfl (Nat.le_of_ble_eq_true rfl) (fun F673372 e673373 n673374 => ?_)
    have he673375 : F673372 q672931 = .inr (19, [.ref q672933, .int p672934, .int o673344, .int o673345, .int o673346, .int o673347, .int p672936, .ref q673348, .int p672941, .int p672942, .int p672943, .ref qo672944, .ref qo672945, .int p672946]) := (n673374 q672931 (rn_oo he673360 he673366 (by decide))).trans he673360
    have he673376 : F673372 q672933 = .inl (I .byte, 8192, .inl f672954) := (n673374 q672933 (rn_ao he673361 he673366)).trans he673361
    have he673377 : F673372 q672932 = .inr (20, [.int 22, .int p672948, .int p672949, .int p672950, .int p672951, .int p672952, .int p672953]) := e673373
    have hfr673378 : rFr [q672932, q672931] P672929 F672930 F673372 := rFr_put hfr673367 n673374
    have tp673379 : tP I P673356 F673372 o673345 q673348 qo672945 qo672944 xt673355 := tP_put x673352 he673366 (by decide) n673374
    refine G_aload_n 0 dr_cX14_row_19 rfl ?_
    refine G_aload_n 1 dr_cX14_row_20 rfl ?_
    refine G_iconst 0 dr_cX14_row_21 (by decide +kernel) ?_
    refine Gw_callV (As := [.ref q672932, .int 0]) (gV_ok D I) (cp_671960_Reader_operand l hl0 D I P673356 F673372 q672931 q672932 q672933 0 p672934 o673344 o673345 o673346 o673347 p672936 q673348 p672941 p672942 p672943 qo672944 qo672945 p672946 22 p672948 p672949 p672950 p672951 p672952 p672953 f672954 xt673355 hm673362 hm673363 hm673364 he673375 he673377 he673376 (gB_w (gBl (show Int32.toInt 0 = 0 by decide)) (by decide) (by decide)) bp672934 bo673344 bo673345 bo673346 bp672936 bp672941 bp672942 bp672943 bp672946 (gB_w (gBl (show Int32.toInt 22 = 22 by decide)) (by decide) (by decide)) bp672948 bp672951 bp672952 bp672953 bf672954 (by have qa0 : Int32.toInt 22 = 22 := (by decide); omega) (hsb673365 _ x672957) (hsb673365 _ x672958) tp673379 x673353 x672961 x672962 (Or.inr (by decide))) dr_cX14_row_22 ⟨wr_10_89, wr_1_32, wr_10_92, by decide, rfl, (Nat.le_of_ble_eq_true rfl), (Nat.le_of_ble_eq_true rfl)⟩ wr_10_91 wr_p_89 hm673362 he673375 rfl (show (16 * (o673344.toInt - p672935.toInt) + 0 : Int).toNat + ((16 * (p672934.toInt - o673344.toInt)).toNat + 1) ≤ ((16 * (p672934.toInt - p672935.toInt)).toNat + 9) by first | omega | decide) (show (160 * (o673344.toInt - p672935.toInt) + 0 : Int).toNat + ((160 * (p672934.toInt - o673344.toInt)).toNat + 7) ≤ ((160 * (p672934.toInt - p672935.toInt)).toNat + 71) by first | omega | decide) (Nat.le_of_ble_eq_true rfl) (fun r673383 w673384 dc673380 ds673381 hp673382 => ?_) (fun _ qx673396 _ dc673394 ds673395 hx => by obtain ⟨P673392, F673393, rfl, rfl, hsb673385, hfr673386, hq673387, hqn673388, hwr673389, hdc673390, hds673391, x673397, ht673398⟩ := hx; exact GT_outA rfl (show (16 * (o673344.toInt - p672935.toInt) + 0 : Int).toNat + dc673394 ≤ ((16 * (p672934.toInt - p672935.toInt)).toNat + 9) by omega) (show (160 * (o673344.toInt - p672935.toInt) + 0 : Int).toNat + ds673395 ≤ ((160 * (p672934.toInt - p672935.toInt)).toNat + 71) by omega) ⟨P673392, F673393, rfl, rfl, (rSub_tr hsb673365 hsb673385), (show rFr [q672932, q672931] P672929 F672930 F673393 from rFr_call hsb673365 hfr673378 hfr673386 (fun b hb hn => ⟨(nm_c (fun e => hn (e ▸ List.mem_cons_self)) (nm_c (fun e => hn (e ▸ (List.mem_cons_of_mem _ List.mem_cons_self))) nm_n)), nm_n⟩)), hq673387, (fun z => hqn673388 (hsb673365 _ z)), hwr673389, (by omega), (by omega), ⟨22, p672948, p672949, p672950, p672951, p672952, p672953, ((hfr673386 q672932 hm673363 nm_n).trans he673377), (gB_w (gBl (show Int32.toInt 22 = 22 by decide)) (by decide) (by decide)), bp672948, bp672951, bp672952, bp672953, (Or.inr (by decide)), x672961, x672962⟩, (fun R c1 c2 c3 c4 c5 => c5 o672971 xt673355 o673344 o673345 o673346 o673347 bo672971 ht672973 r673338 bo673344 bo673345 bo673346 ht673354 ht673398)⟩)
    obtain ⟨P673418, F673419, o673399, o673400, o673401, o673402, q673403, o673404, o673405, o673406, o673407, xt673417, rfl, rfl, hsb673420, hfr673421, he673422, he673423, he673424, hdc, hds, bo673399, bo673400, bo673401, bo673406, bo673407, x673408, x673409, x673410, x673411, x673412, x673413, x673414, x673415, ht673416⟩ := hp673382
    have hm673425 : q672931 ∈ P673418 := hsb673420 q672931 hm673362
    have hm673426 : q672932 ∈ P673418 := hsb673420 q672932 hm673363
    have hm673427 : q672933 ∈ P673418 := hsb673420 q672933 hm673364
    have hsb673428 : rSub P672929 P673418 := rSub_tr hsb673365 hsb673420
    have hfr673429 : rFr [q672932, q672931] P672929 F672930 F673419 := rFr_call hsb673365 hfr673378 hfr673421 (fun b hb hn => ⟨(nm_c (fun e => hn (e ▸ List.mem_cons_self)) (nm_c (fun e => hn (e ▸ (List.mem_cons_of_mem _ List.mem_cons_self))) nm_n)), (nm_c (fun e => hn (e ▸ List.mem_cons_self)) (nm_c (fun e => hn (e ▸ (List.mem_cons_of_mem _ List.mem_cons_self))) nm_n))⟩)
    have bo673402 := gB_any o673402
    have bo673404 := gB_any o673404
    have bo673405 := gB_any o673405
    change G _ _ _ _ _ _ _ _ _ _ _
    refine G_widen (cs' := (16 * (o673344.toInt - p672935.toInt) + 0 : Int).toNat + ((16 * (o673399.toInt - o673344.toInt)).toNat)) (sl' := (160 * (o673344.toInt - p672935.toInt) + 0 : Int).toNat + ((160 * (o673399.toInt - o673344.toInt)).toNat)) (by omega) (by omega) ?_
    have x673430 : p672935.toInt + 1 ≤ o673344.toInt := by have q := (prQ_le x673371 x673415); omega
    have x673431 : p672935.toInt + 1 ≤ o673399.toInt := by omega
    have x673432 : prQ o673400 (p672935.toInt + 2) o673399 := prP_q x673409 x673430 (by omega)
    exact G_vretA dr_cX14_row_25 rfl (show (16 * (o673344.toInt - p672935.toInt) + 0 : Int).toNat + ((16 * (o673399.toInt - o673344.toInt)).toNat) ≤ ((16 * (p672934.toInt - p672935.toInt)).toNat + 9) by omega) (show (160 * (o673344.toInt - p672935.toInt) + 0 : Int).toNat + ((160 * (o673399.toInt - o673344.toInt)).toNat) ≤ ((160 * (p672934.toInt - p672935.toInt)).toNat + 71) by omega) ⟨P673418, F673419, o673399, o673400, o673401, o673402, o673345, q673403, 22, p672948, o673404, o673405, o673406, o673407, xt673417, rfl, rfl, hsb673428, hfr673429, he673422, he673423, he673424, (by omega), (by omega), bo673399, bo673400, bo673401, bo673345, (gB_w (gBl (show Int32.toInt 22 = 22 by decide)) (by decide) (by decide)), bp672948, bo673406, bo673407, (by have qa0 : Int32.toInt 22 = 22 := (by decide); omega), (prP_le x673409 (by omega)), (by have qa0 : Int32.toInt 22 = 22 := (by decide); omega), x673411, x673412, x673413, x673414, (Or.inr (by decide)), (Or.inr (Or.inr (by decide))), (isK_1 x672972 (by omega)), ⟨by omega, x673432⟩, (fun R c1 c2 c3 c4 c5 => c5 o672971 xt673355 o673344 o673345 o673346 o673347 xt673417 o673399 o673400 o673401 o673402 o673404 o673405 o673406 o673407 bo672971 ht672973 r673338 bo673344 bo673345 bo673346 ht673354 bo673399 bo673400 bo673401 bo673406 bo673407 ht673416)⟩
/- tr_RReader_end: a.0...at, a.0...kind, a.0...place, a.0...value, a.0...before, a.0...goalN, a.1...first, a.1...second, a.0.goalPlaces.#, a.0.goalPlaces.[], a.0.goals.#, a.0.goals.[], a.1.end...op, a.1.end...a, a.1.end...b, a.1.end...regA, a.1.end...regB -/
def tr_RReader_end (a0_n : Int32) (a0_at : Int32) (a0_kind : Int32) (a0_value : Int32) (a0_goalN : Int32) (a0_t_v : Nat → Int32) (p : Nat → Int32) (p2 : Nat) (p3 : Nat → Int32) (p4 : Nat) (a1_end_b : Int32) (a1_end_regB : Int32) (xt : gTx) (o1 : Int32) (o2 : Int32) (o3 : Int32) (o4 : Int32) (o5 : Int32) (o6 : Int32) (o7 : Int32) (o8 : Int32) (o9 : Nat) (o10 : Nat → Int32) (o11 : Nat) (o12 : Nat → Int32) (o13 : Int32) (o14 : Int32) (o15 : Int32) (o16 : Int32) (o17 : Int32) (o18 : gTx) : Prop := ∀ R : (Int32) → (Int32) → (Int32) → (Int32) → (Int32) → (Int32) → (Int32) → (Int32) → (Nat) → (Nat → Int32) → (Nat) → (Nat → Int32) → (Int32) → (Int32) → (Int32) → (Int32) → (Int32) → (gTx) → Prop,
  (∀ (x1 : Int32) (x2 : Int32) (x3 : Int32) (x4 : gTx) (x5 : Int32) (x6 : Int32) (x7 : Int32) (x8 : Int32) (x9 : gTx) (x10 : Int32) (x11 : Int32) (x12 : Int32) (x13 : Int32) (x14 : Int32) (x15 : Int32) (x16 : Int32) (x17 : Int32), gB x1 0 1 → tr_RReader_is sb_44 a0_kind xt x1 → x1.toInt = 0 → gB x2 0 1 → tr_RReader_is sb_45 a0_kind xt x2 → x2.toInt = 0 → gB x3 0 1 → tr_RReader_is sb_46 a0_kind xt x3 → x3.toInt ≠ 0 → gB x5 0 8192 → gB x6 0 6 → gB x7 0 8192 → tr_RReader_next a0_n a0_at a0_kind a0_value a0_t_v x5 x6 x7 x8 x4 → gB x10 0 8192 → gB x11 0 6 → gB x12 0 8192 → gB x16 0 1 → gB x17 0 1 → tr_RReader_operand (0 : Int32) a0_n x5 x6 x8 (0 : Int32) a1_end_b (0 : Int32) a1_end_regB a0_t_v x10 x11 x12 x13 x14 x15 x16 x17 x9 → R x10 x11 x12 x13 x6 a0_goalN (0 : Int32) (0 : Int32) p2 p p4 p3 (32 : Int32) x14 x15 x16 x17 x9) →
  (∀ (x1 : Int32) (x2 : Int32) (x3 : gTx) (x4 : Int32) (x5 : Int32) (x6 : Int32) (x7 : Int32) (x8 : gTx) (x9 : Int32) (x10 : Int32) (x11 : Int32) (x12 : Int32) (x13 : Int32) (x14 : Int32) (x15 : Int32) (x16 : Int32) (x17 : gTx) (x18 : Int32) (x19 : Int32) (x20 : Int32) (x21 : Int32) (x22 : Int32) (x23 : Nat) (x24 : Nat → Int32) (x25 : Nat) (x26 : Nat → Int32) (x27 : gTx) (x28 : Int32) (x29 : Int32) (x30 : Int32) (x31 : Int32) (x32 : Int32) (x33 : Nat) (x34 : Nat → Int32) (x35 : Nat) (x36 : Nat → Int32), gB x1 0 1 → tr_RReader_is sb_44 a0_kind xt x1 → x1.toInt = 0 → gB x2 0 1 → tr_RReader_is sb_45 a0_kind xt x2 → x2.toInt ≠ 0 → gB x4 0 8192 → gB x5 0 6 → gB x6 0 8192 → tr_RReader_next a0_n a0_at a0_kind a0_value a0_t_v x4 x5 x6 x7 x3 → gB x9 0 8192 → gB x10 0 6 → gB x11 0 8192 → gB x15 0 1 → gB x16 0 1 → tr_RReader_operand (0 : Int32) a0_n x4 x5 x7 (0 : Int32) a1_end_b (0 : Int32) a1_end_regB a0_t_v x9 x10 x11 x12 x13 x14 x15 x16 x8 → gB x18 0 8192 → gB x19 0 6 → gB x20 0 8192 → gB x22 1 1000000 → tr_RReader_goal a0_n x9 x10 x11 x12 a0_goalN a0_t_v p p2 p3 p4 x18 x19 x20 x21 x22 x23 x24 x25 x26 x17 → gB x28 0 8192 → gB x29 0 6 → gB x30 0 8192 → gB x32 1 1000000 → tr_RReader_goal a0_n x18 x19 x20 x21 x22 a0_t_v x24 x23 x26 x25 x28 x29 x30 x31 x32 x33 x34 x35 x36 x27 → R x28 x29 x30 x31 x19 x32 x12 x21 x33 x34 x35 x36 (31 : Int32) x13 x14 x15 x16 x27) →
  (∀ (x1 : Int32) (x2 : gTx) (x3 : Int32) (x4 : Int32) (x5 : Int32) (x6 : Int32) (x7 : gTx) (x8 : Int32) (x9 : Int32) (x10 : Int32) (x11 : Int32) (x12 : Int32) (x13 : Nat) (x14 : Nat → Int32) (x15 : Nat) (x16 : Nat → Int32), gB x1 0 1 → tr_RReader_is sb_44 a0_kind xt x1 → x1.toInt ≠ 0 → gB x3 0 8192 → gB x4 0 6 → gB x5 0 8192 → tr_RReader_next a0_n a0_at a0_kind a0_value a0_t_v x3 x4 x5 x6 x2 → gB x8 0 8192 → gB x9 0 6 → gB x10 0 8192 → gB x12 1 1000000 → tr_RReader_goal a0_n x3 x4 x5 x6 a0_goalN a0_t_v p p2 p3 p4 x8 x9 x10 x11 x12 x13 x14 x15 x16 x7 → R x8 x9 x10 x11 x4 x12 x6 x6 x13 x14 x15 x16 (30 : Int32) (0 : Int32) a1_end_b (0 : Int32) a1_end_regB x7) →
  R o1 o2 o3 o4 o5 o6 o7 o8 o9 o10 o11 o12 o13 o14 o15 o16 o17 o18
/- tx_RReader_end: throws -/
def tx_RReader_end (a0_n : Int32) (a0_at : Int32) (a0_kind : Int32) (a0_value : Int32) (a0_goalN : Int32) (a0_t_v : Nat → Int32) (p : Nat → Int32) (p2 : Nat) (p3 : Nat → Int32) (p4 : Nat) (a1_end_b : Int32) (a1_end_regB : Int32) (xt : gTx) : Prop := ∀ R : Prop,
  (∀ (x1 : Int32) (x2 : Int32) (x3 : Int32), gB x1 0 1 → tr_RReader_is sb_44 a0_kind xt x1 → x1.toInt = 0 → gB x2 0 1 → tr_RReader_is sb_45 a0_kind xt x2 → x2.toInt = 0 → gB x3 0 1 → tr_RReader_is sb_46 a0_kind xt x3 → x3.toInt = 0 → R) →
  (∀ (x1 : Int32) (x2 : Int32) (x3 : Int32) (x4 : gTx) (x5 : Int32) (x6 : Int32) (x7 : Int32) (x8 : Int32), gB x1 0 1 → tr_RReader_is sb_44 a0_kind xt x1 → x1.toInt = 0 → gB x2 0 1 → tr_RReader_is sb_45 a0_kind xt x2 → x2.toInt = 0 → gB x3 0 1 → tr_RReader_is sb_46 a0_kind xt x3 → x3.toInt ≠ 0 → gB x5 0 8192 → gB x6 0 6 → gB x7 0 8192 → tr_RReader_next a0_n a0_at a0_kind a0_value a0_t_v x5 x6 x7 x8 x4 → tx_RReader_operand x6 → R) →
  (∀ (x1 : Int32) (x2 : Int32) (x3 : gTx) (x4 : Int32) (x5 : Int32) (x6 : Int32) (x7 : Int32), gB x1 0 1 → tr_RReader_is sb_44 a0_kind xt x1 → x1.toInt = 0 → gB x2 0 1 → tr_RReader_is sb_45 a0_kind xt x2 → x2.toInt ≠ 0 → gB x4 0 8192 → gB x5 0 6 → gB x6 0 8192 → tr_RReader_next a0_n a0_at a0_kind a0_value a0_t_v x4 x5 x6 x7 x3 → tx_RReader_operand x5 → R) →
  (∀ (x1 : Int32) (x2 : Int32) (x3 : gTx) (x4 : Int32) (x5 : Int32) (x6 : Int32) (x7 : Int32) (x8 : gTx) (x9 : Int32) (x10 : Int32) (x11 : Int32) (x12 : Int32) (x13 : Int32) (x14 : Int32) (x15 : Int32) (x16 : Int32), gB x1 0 1 → tr_RReader_is sb_44 a0_kind xt x1 → x1.toInt = 0 → gB x2 0 1 → tr_RReader_is sb_45 a0_kind xt x2 → x2.toInt ≠ 0 → gB x4 0 8192 → gB x5 0 6 → gB x6 0 8192 → tr_RReader_next a0_n a0_at a0_kind a0_value a0_t_v x4 x5 x6 x7 x3 → gB x9 0 8192 → gB x10 0 6 → gB x11 0 8192 → gB x15 0 1 → gB x16 0 1 → tr_RReader_operand (0 : Int32) a0_n x4 x5 x7 (0 : Int32) a1_end_b (0 : Int32) a1_end_regB a0_t_v x9 x10 x11 x12 x13 x14 x15 x16 x8 → tx_RReader_goal x10 a0_goalN p p2 p3 p4 → R) →
  (∀ (x1 : Int32) (x2 : Int32) (x3 : gTx) (x4 : Int32) (x5 : Int32) (x6 : Int32) (x7 : Int32) (x8 : gTx) (x9 : Int32) (x10 : Int32) (x11 : Int32) (x12 : Int32) (x13 : Int32) (x14 : Int32) (x15 : Int32) (x16 : Int32) (x17 : gTx) (x18 : Int32) (x19 : Int32) (x20 : Int32) (x21 : Int32) (x22 : Int32) (x23 : Nat) (x24 : Nat → Int32) (x25 : Nat) (x26 : Nat → Int32), gB x1 0 1 → tr_RReader_is sb_44 a0_kind xt x1 → x1.toInt = 0 → gB x2 0 1 → tr_RReader_is sb_45 a0_kind xt x2 → x2.toInt ≠ 0 → gB x4 0 8192 → gB x5 0 6 → gB x6 0 8192 → tr_RReader_next a0_n a0_at a0_kind a0_value a0_t_v x4 x5 x6 x7 x3 → gB x9 0 8192 → gB x10 0 6 → gB x11 0 8192 → gB x15 0 1 → gB x16 0 1 → tr_RReader_operand (0 : Int32) a0_n x4 x5 x7 (0 : Int32) a1_end_b (0 : Int32) a1_end_regB a0_t_v x9 x10 x11 x12 x13 x14 x15 x16 x8 → gB x18 0 8192 → gB x19 0 6 → gB x20 0 8192 → gB x22 1 1000000 → tr_RReader_goal a0_n x9 x10 x11 x12 a0_goalN a0_t_v p p2 p3 p4 x18 x19 x20 x21 x22 x23 x24 x25 x26 x17 → tx_RReader_goal x19 x22 x24 x23 x26 x25 → R) →
  (∀ (x1 : Int32) (x2 : gTx) (x3 : Int32) (x4 : Int32) (x5 : Int32) (x6 : Int32), gB x1 0 1 → tr_RReader_is sb_44 a0_kind xt x1 → x1.toInt ≠ 0 → gB x3 0 8192 → gB x4 0 6 → gB x5 0 8192 → tr_RReader_next a0_n a0_at a0_kind a0_value a0_t_v x3 x4 x5 x6 x2 → tx_RReader_goal x4 a0_goalN p p2 p3 p4 → R) →
  R
