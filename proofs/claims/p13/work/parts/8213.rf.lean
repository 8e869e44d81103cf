theorem dr_cJ7_copyOf_59c91_0 : decode cJ7_copyOf_59c91 0 = .ok (.iload_n 1, 1) := by decide +kernel
theorem dr_cJ7_copyOf_59c91_1 : decode cJ7_copyOf_59c91 1 = .ok (.aload_n 0, 1) := by decide +kernel
theorem dr_cJ7_copyOf_59c91_2 : decode cJ7_copyOf_59c91 2 = .ok (.arraylength, 1) := by decide +kernel
theorem dr_cJ7_copyOf_59c91_3 : decode cJ7_copyOf_59c91 3 = .ok (.if_icmp .ne 11, 3) := by decide +kernel
theorem dr_cJ7_copyOf_59c91_14 : decode cJ7_copyOf_59c91 14 = .ok (.iload_n 1, 1) := by decide +kernel
theorem dr_cJ7_copyOf_59c91_15 : decode cJ7_copyOf_59c91 15 = .ok (.newarray .int, 2) := by decide +kernel
theorem wr_1_95 : (Jvm.Cond.arrayClass Jvm.ClassFile.FieldType.int) ∈ gw := gw_1 95 rfl rfl
theorem dr_cJ7_copyOf_59c91_17 : decode cJ7_copyOf_59c91 17 = .ok (.astore_n 2, 1) := by decide +kernel
theorem dr_cJ7_copyOf_59c91_18 : decode cJ7_copyOf_59c91 18 = .ok (.aload_n 0, 1) := by decide +kernel
theorem dr_cJ7_copyOf_59c91_19 : decode cJ7_copyOf_59c91 19 = .ok (.iconst 0, 1) := by decide +kernel
theorem dr_cJ7_copyOf_59c91_20 : decode cJ7_copyOf_59c91 20 = .ok (.aload_n 2, 1) := by decide +kernel
theorem dr_cJ7_copyOf_59c91_21 : decode cJ7_copyOf_59c91 21 = .ok (.iconst 0, 1) := by decide +kernel
theorem dr_cJ7_copyOf_59c91_22 : decode cJ7_copyOf_59c91 22 = .ok (.aload_n 0, 1) := by decide +kernel
theorem dr_cJ7_copyOf_59c91_23 : decode cJ7_copyOf_59c91 23 = .ok (.arraylength, 1) := by decide +kernel
theorem dr_cJ7_copyOf_59c91_24 : decode cJ7_copyOf_59c91 24 = .ok (.iload_n 1, 1) := by decide +kernel
theorem dr_cJ7_copyOf_59c91_25 : decode cJ7_copyOf_59c91 25 = .ok (.invokestatic 304, 3) := by decide +kernel
theorem dr_cJ7_copyOf_59c91_28 : decode cJ7_copyOf_59c91 28 = .ok (.invokestatic 150, 3) := by decide +kernel
theorem dr_cJ7_copyOf_59c91_31 : decode cJ7_copyOf_59c91 31 = .ok (.aload_n 2, 1) := by decide +kernel
theorem dr_cJ7_copyOf_59c91_32 : decode cJ7_copyOf_59c91 32 = .ok (.areturn, 1) := by decide +kernel
theorem dr_cX14_goal_0 : decode cX14_goal 0 = .ok (.aload_n 0, 1) := by decide +kernel
theorem dr_cX14_goal_1 : decode cX14_goal 1 = .ok (.getfield 143, 3) := by decide +kernel
theorem wr_9_51 : (Jvm.Cond.fieldLink "SpillForgeModel$Reader" (143 : Nat) "SpillForgeModel$Reader" "goalN" "I") ∈ gw := gw_9 51 rfl rfl
theorem dr_cX14_goal_4 : decode cX14_goal 4 = .ok (.aload_n 0, 1) := by decide +kernel
theorem dr_cX14_goal_5 : decode cX14_goal 5 = .ok (.getfield 25, 3) := by decide +kernel
theorem wr_9_50 : (Jvm.Cond.fieldLink "SpillForgeModel$Reader" (25 : Nat) "SpillForgeModel$Reader" "goals" "[I") ∈ gw := gw_9 50 rfl rfl
theorem dr_cX14_goal_8 : decode cX14_goal 8 = .ok (.arraylength, 1) := by decide +kernel
theorem dr_cX14_goal_9 : decode cX14_goal 9 = .ok (.if_icmp .ne 37, 3) := by decide +kernel
theorem dr_cX14_goal_46 : decode cX14_goal 46 = .ok (.aload_n 0, 1) := by decide +kernel
theorem dr_cX14_goal_47 : decode cX14_goal 47 = .ok (.getfield 21, 3) := by decide +kernel
theorem wr_9_49 : (Jvm.Cond.fieldLink "SpillForgeModel$Reader" (21 : Nat) "SpillForgeModel$Reader" "goalPlaces" "[I") ∈ gw := gw_9 49 rfl rfl
theorem dr_cX14_goal_50 : decode cX14_goal 50 = .ok (.aload_n 0, 1) := by decide +kernel
theorem dr_cX14_goal_51 : decode cX14_goal 51 = .ok (.getfield 143, 3) := by decide +kernel
theorem dr_cX14_goal_54 : decode cX14_goal 54 = .ok (.aload_n 0, 1) := by decide +kernel
theorem dr_cX14_goal_55 : decode cX14_goal 55 = .ok (.getfield 47, 3) := by decide +kernel
theorem dr_cX14_goal_58 : decode cX14_goal 58 = .ok (.iastore, 1) := by decide +kernel
theorem dr_cX14_goal_59 : decode cX14_goal 59 = .ok (.aload_n 0, 1) := by decide +kernel
theorem dr_cX14_goal_60 : decode cX14_goal 60 = .ok (.iconst 3, 1) := by decide +kernel
theorem dr_cX14_goal_61 : decode cX14_goal 61 = .ok (.invokevirtual 152, 3) := by decide +kernel
theorem wr_9_93 : (Jvm.Cond.methodLink "SpillForgeModel$Reader" (152 : Nat) ({ cls := "SpillForgeModel$Reader", name := "want", desc := "(I)I" } : Jvm.MethodName)) ∈ gw := gw_9 93 rfl rfl
theorem wr_9_96 : (Jvm.Cond.code ({ cls := "SpillForgeModel$Reader", name := "want", desc := "(I)I" } : Jvm.MethodName) prog_17_method_11_code (3 : Nat) (Option.some Jvm.ClassFile.FieldType.int)) ∈ gw := gw_9 96 rfl rfl
theorem wr_9_95 : (Jvm.Cond.instanceMethod ({ cls := "SpillForgeModel$Reader", name := "want", desc := "(I)I" } : Jvm.MethodName)) ∈ gw := gw_9 95 rfl rfl
theorem wr_p_80 : Cond.selects "SpillForgeModel$Reader" ⟨"SpillForgeModel$Reader", "want", "(I)I"⟩ ⟨"SpillForgeModel$Reader", "want", "(I)I"⟩ ∈ gw := gw_p _ 80 rfl rfl rfl
theorem dr_cX14_goal_64 : decode cX14_goal 64 = .ok (.istore_n 1, 1) := by decide +kernel
theorem dr_cX14_goal_65 : decode cX14_goal 65 = .ok (.aload_n 0, 1) := by decide +kernel
theorem dr_cX14_goal_66 : decode cX14_goal 66 = .ok (.getfield 25, 3) := by decide +kernel
theorem dr_cX14_goal_69 : decode cX14_goal 69 = .ok (.aload_n 0, 1) := by decide +kernel
theorem dr_cX14_goal_70 : decode cX14_goal 70 = .ok (.getfield 143, 3) := by decide +kernel
theorem dr_cX14_goal_73 : decode cX14_goal 73 = .ok (.iload_n 1, 1) := by decide +kernel
theorem dr_cX14_goal_74 : decode cX14_goal 74 = .ok (.iastore, 1) := by decide +kernel
theorem dr_cX14_goal_75 : decode cX14_goal 75 = .ok (.aload_n 0, 1) := by decide +kernel
theorem dr_cX14_goal_76 : decode cX14_goal 76 = .ok (.dup, 1) := by decide +kernel
theorem dr_cX14_goal_77 : decode cX14_goal 77 = .ok (.getfield 143, 3) := by decide +kernel
theorem dr_cX14_goal_80 : decode cX14_goal 80 = .ok (.iconst 1, 1) := by decide +kernel
theorem dr_cX14_goal_81 : decode cX14_goal 81 = .ok (.iadd, 1) := by decide +kernel
theorem dr_cX14_goal_82 : decode cX14_goal 82 = .ok (.putfield 143, 3) := by decide +kernel
theorem dr_cX14_goal_85 : decode cX14_goal 85 = .ok (.iload_n 1, 1) := by decide +kernel
theorem dr_cX14_goal_86 : decode cX14_goal 86 = .ok (.ireturn, 1) := by decide +kernel
theorem dr_cX14_goal_12 : decode cX14_goal 12 = .ok (.aload_n 0, 1) := by decide +kernel
theorem dr_cX14_goal_13 : decode cX14_goal 13 = .ok (.aload_n 0, 1) := by decide +kernel
theorem dr_cX14_goal_14 : decode cX14_goal 14 = .ok (.getfield 25, 3) := by decide +kernel
theorem dr_cX14_goal_17 : decode cX14_goal 17 = .ok (.iconst 2, 1) := by decide +kernel
theorem dr_cX14_goal_18 : decode cX14_goal 18 = .ok (.aload_n 0, 1) := by decide +kernel
theorem dr_cX14_goal_19 : decode cX14_goal 19 = .ok (.getfield 143, 3) := by decide +kernel
theorem dr_cX14_goal_22 : decode cX14_goal 22 = .ok (.imul, 1) := by decide +kernel
theorem dr_cX14_goal_23 : decode cX14_goal 23 = .ok (.invokestatic 146, 3) := by decide +kernel
theorem wr_10_114 : (Jvm.Cond.methodLink "SpillForgeModel$Reader" (146 : Nat) ({ cls := "java/util/Arrays", name := "copyOf", desc := "([II)[I" } : Jvm.MethodName)) ∈ gw := gw_10 114 rfl rfl
theorem wr_10_116 : (Jvm.Cond.code ({ cls := "java/util/Arrays", name := "copyOf", desc := "([II)[I" } : Jvm.MethodName) prog_44_method_123_code (3 : Nat) (Option.some (Jvm.ClassFile.FieldType.array Jvm.ClassFile.FieldType.int))) ∈ gw := gw_10 116 rfl rfl
theorem wr_10_115 : (Jvm.Cond.static ({ cls := "java/util/Arrays", name := "copyOf", desc := "([II)[I" } : Jvm.MethodName)) ∈ gw := gw_10 115 rfl rfl
theorem dr_cX14_goal_26 : decode cX14_goal 26 = .ok (.putfield 25, 3) := by decide +kernel
theorem dr_cX14_goal_29 : decode cX14_goal 29 = .ok (.aload_n 0, 1) := by decide +kernel
theorem dr_cX14_goal_30 : decode cX14_goal 30 = .ok (.aload_n 0, 1) := by decide +kernel
theorem dr_cX14_goal_31 : decode cX14_goal 31 = .ok (.getfield 21, 3) := by decide +kernel
theorem dr_cX14_goal_34 : decode cX14_goal 34 = .ok (.iconst 2, 1) := by decide +kernel
theorem dr_cX14_goal_35 : decode cX14_goal 35 = .ok (.aload_n 0, 1) := by decide +kernel
theorem dr_cX14_goal_36 : decode cX14_goal 36 = .ok (.getfield 143, 3) := by decide +kernel
theorem dr_cX14_goal_39 : decode cX14_goal 39 = .ok (.imul, 1) := by decide +kernel
theorem dr_cX14_goal_40 : decode cX14_goal 40 = .ok (.invokestatic 146, 3) := by decide +kernel
theorem dr_cX14_goal_43 : decode cX14_goal 43 = .ok (.putfield 21, 3) := by decide +kernel
theorem dr_cX14_row_0 : decode cX14_row 0 = .ok (.aload_n 0, 1) := by decide +kernel
theorem dr_cX14_row_1 : decode cX14_row 1 = .ok (.ldc 179, 2) := by decide +kernel
theorem dr_cX14_row_3 : decode cX14_row 3 = .ok (.invokevirtual 132, 3) := by decide +kernel
theorem dr_cX14_row_6 : decode cX14_row 6 = .ok (.ifCond .eq 20, 3) := by decide +kernel
theorem dr_cX14_row_26 : decode cX14_row 26 = .ok (.aload_n 1, 1) := by decide +kernel
theorem dr_cX14_row_27 : decode cX14_row 27 = .ok (.aload_n 0, 1) := by decide +kernel
theorem dr_cX14_row_28 : decode cX14_row 28 = .ok (.iconst 2, 1) := by decide +kernel
theorem dr_cX14_row_29 : decode cX14_row 29 = .ok (.invokevirtual 152, 3) := by decide +kernel
theorem dr_cX14_row_32 : decode cX14_row 32 = .ok (.putfield 227, 3) := by decide +kernel
theorem wr_9_183 : (Jvm.Cond.fieldLink "SpillForgeModel$Reader" (227 : Nat) "SpillForgeModel$Row" "t" "I") ∈ gw := gw_9 183 rfl rfl
theorem dr_cX14_row_35 : decode cX14_row 35 = .ok (.aload_n 0, 1) := by decide +kernel
theorem dr_cX14_row_36 : decode cX14_row 36 = .ok (.ldc 229, 2) := by decide +kernel
theorem dr_cX14_row_38 : decode cX14_row 38 = .ok (.invokevirtual 173, 3) := by decide +kernel
theorem wr_9_137 : (Jvm.Cond.methodLink "SpillForgeModel$Reader" (173 : Nat) ({ cls := "SpillForgeModel$Reader", name := "want", desc := "(Ljava/lang/String;)V" } : Jvm.MethodName)) ∈ gw := gw_9 137 rfl rfl
theorem wr_9_140 : (Jvm.Cond.code ({ cls := "SpillForgeModel$Reader", name := "want", desc := "(Ljava/lang/String;)V" } : Jvm.MethodName) prog_17_method_10_code (2 : Nat) (Option.none : Option Jvm.ClassFile.FieldType)) ∈ gw := gw_9 140 rfl rfl
theorem wr_9_139 : (Jvm.Cond.instanceMethod ({ cls := "SpillForgeModel$Reader", name := "want", desc := "(Ljava/lang/String;)V" } : Jvm.MethodName)) ∈ gw := gw_9 139 rfl rfl
theorem wr_p_83 : Cond.selects "SpillForgeModel$Reader" ⟨"SpillForgeModel$Reader", "want", "(Ljava/lang/String;)V"⟩ ⟨"SpillForgeModel$Reader", "want", "(Ljava/lang/String;)V"⟩ ∈ gw := gw_p _ 83 rfl rfl rfl
theorem dr_cX14_row_41 : decode cX14_row 41 = .ok (.aload_n 0, 1) := by decide +kernel
theorem dr_cX14_row_42 : decode cX14_row 42 = .ok (.ldc 231, 2) := by decide +kernel
theorem dr_cX14_row_44 : decode cX14_row 44 = .ok (.invokevirtual 132, 3) := by decide +kernel
theorem dr_cX14_row_47 : decode cX14_row 47 = .ok (.ifCond .eq 14, 3) := by decide +kernel
theorem dr_cX14_row_61 : decode cX14_row 61 = .ok (.aload_n 0, 1) := by decide +kernel
theorem dr_cX14_row_62 : decode cX14_row 62 = .ok (.aload_n 1, 1) := by decide +kernel
theorem dr_cX14_row_63 : decode cX14_row 63 = .ok (.iconst 0, 1) := by decide +kernel
theorem dr_cX14_row_64 : decode cX14_row 64 = .ok (.invokevirtual 223, 3) := by decide +kernel
theorem wr_10_89 : (Jvm.Cond.methodLink "SpillForgeModel$Reader" (223 : Nat) ({ cls := "SpillForgeModel$Reader", name := "operand", desc := "(LSpillForgeModel$Row;Z)V" } : Jvm.MethodName)) ∈ gw := gw_10 89 rfl rfl
theorem wr_10_92 : (Jvm.Cond.code ({ cls := "SpillForgeModel$Reader", name := "operand", desc := "(LSpillForgeModel$Row;Z)V" } : Jvm.MethodName) prog_17_method_16_code (4 : Nat) (Option.none : Option Jvm.ClassFile.FieldType)) ∈ gw := gw_10 92 rfl rfl
theorem wr_10_91 : (Jvm.Cond.instanceMethod ({ cls := "SpillForgeModel$Reader", name := "operand", desc := "(LSpillForgeModel$Row;Z)V" } : Jvm.MethodName)) ∈ gw := gw_10 91 rfl rfl
theorem wr_p_89 : Cond.selects "SpillForgeModel$Reader" ⟨"SpillForgeModel$Reader", "operand", "(LSpillForgeModel$Row;Z)V"⟩ ⟨"SpillForgeModel$Reader", "operand", "(LSpillForgeModel$Row;Z)V"⟩ ∈ gw := gw_p _ 89 rfl rfl rfl
theorem dr_cX14_row_67 : decode cX14_row 67 = .ok (.aload_n 1, 1) := by decide +kernel
theorem dr_cX14_row_68 : decode cX14_row 68 = .ok (.aload_n 0, 1) := by decide +kernel
theorem dr_cX14_row_69 : decode cX14_row 69 = .ok (.getfield 38, 3) := by decide +kernel
theorem dr_cX14_row_72 : decode cX14_row 72 = .ok (.iconst 5, 1) := by decide +kernel
theorem dr_cX14_row_73 : decode cX14_row 73 = .ok (.if_icmp .ne 13, 3) := by decide +kernel
theorem dr_cX14_row_86 : decode cX14_row 86 = .ok (.iconst 0, 1) := by decide +kernel
theorem dr_cX14_row_87 : decode cX14_row 87 = .ok (.putfield 220, 3) := by decide +kernel
theorem wr_9_179 : (Jvm.Cond.fieldLink "SpillForgeModel$Reader" (220 : Nat) "SpillForgeModel$Row" "op" "I") ∈ gw := gw_9 179 rfl rfl
theorem dr_cX14_row_90 : decode cX14_row 90 = .ok (.aload_n 1, 1) := by decide +kernel
theorem dr_cX14_row_91 : decode cX14_row 91 = .ok (.getfield 220, 3) := by decide +kernel
theorem dr_cX14_row_94 : decode cX14_row 94 = .ok (.ifCond .ne 4, 3) := by decide +kernel
theorem dr_cX14_row_97 : decode cX14_row 97 = .ok (.return_, 1) := by decide +kernel
theorem dr_cX14_row_76 : decode cX14_row 76 = .ok (.aload_n 0, 1) := by decide +kernel
theorem dr_cX14_row_77 : decode cX14_row 77 = .ok (.getfield 11, 3) := by decide +kernel
theorem dr_cX14_row_80 : decode cX14_row 80 = .ok (.invokestatic 233, 3) := by decide +kernel
theorem wr_10_97 : (Jvm.Cond.code ({ cls := "SpillForgeModel", name := "operation", desc := "(Ljava/lang/String;)I" } : Jvm.MethodName) prog_14_method_1_code (4 : Nat) (Option.some Jvm.ClassFile.FieldType.int)) ∈ gw := gw_10 97 rfl rfl
theorem wr_10_96 : (Jvm.Cond.static ({ cls := "SpillForgeModel", name := "operation", desc := "(Ljava/lang/String;)I" } : Jvm.MethodName)) ∈ gw := gw_10 96 rfl rfl
theorem dr_cX14_row_83 : decode cX14_row 83 = .ok (.goto 4, 3) := by decide +kernel
theorem dr_cX14_row_98 : decode cX14_row 98 = .ok (.aload_n 0, 1) := by decide +kernel
theorem dr_cX14_row_99 : decode cX14_row 99 = .ok (.invokevirtual 35, 3) := by decide +kernel
theorem dr_cX14_row_102 : decode cX14_row 102 = .ok (.aload_n 0, 1) := by decide +kernel
theorem dr_cX14_row_103 : decode cX14_row 103 = .ok (.aload_n 1, 1) := by decide +kernel
theorem dr_cX14_row_104 : decode cX14_row 104 = .ok (.iconst 1, 1) := by decide +kernel
theorem dr_cX14_row_105 : decode cX14_row 105 = .ok (.invokevirtual 223, 3) := by decide +kernel
theorem dr_cX14_row_108 : decode cX14_row 108 = .ok (.return_, 1) := by decide +kernel
theorem dr_cX14_row_50 : decode cX14_row 50 = .ok (.aload_n 0, 1) := by decide +kernel
theorem dr_cX14_row_51 : decode cX14_row 51 = .ok (.invokevirtual 35, 3) := by decide +kernel
theorem dr_cX14_row_54 : decode cX14_row 54 = .ok (.aload_n 1, 1) := by decide +kernel
theorem dr_cX14_row_55 : decode cX14_row 55 = .ok (.bipush 20, 2) := by decide +kernel
theorem dr_cX14_row_57 : decode cX14_row 57 = .ok (.putfield 220, 3) := by decide +kernel
theorem dr_cX14_row_60 : decode cX14_row 60 = .ok (.return_, 1) := by decide +kernel
theorem dr_cX14_row_9 : decode cX14_row 9 = .ok (.aload_n 0, 1) := by decide +kernel
theorem dr_cX14_row_10 : decode cX14_row 10 = .ok (.invokevirtual 35, 3) := by decide +kernel
theorem dr_cX14_row_13 : decode cX14_row 13 = .ok (.aload_n 1, 1) := by decide +kernel
theorem dr_cX14_row_14 : decode cX14_row 14 = .ok (.bipush 22, 2) := by decide +kernel
theorem dr_cX14_row_16 : decode cX14_row 16 = .ok (.putfield 220, 3) := by decide +kernel
theorem dr_cX14_row_19 : decode cX14_row 19 = .ok (.aload_n 0, 1) := by decide +kernel
theorem dr_cX14_row_20 : decode cX14_row 20 = .ok (.aload_n 1, 1) := by decide +kernel
theorem dr_cX14_row_21 : decode cX14_row 21 = .ok (.iconst 0, 1) := by decide +kernel
theorem dr_cX14_row_22 : decode cX14_row 22 = .ok (.invokevirtual 223, 3) := by decide +kernel
theorem dr_cX14_row_25 : decode cX14_row 25 = .ok (.return_, 1) := by decide +kernel
abbrev ky_675586_Arrays_copyOf : gKey := (cJ7_copyOf_59c91, 3, "java/util/Arrays", (some (FieldType.array FieldType.int)), [], "copyOf", fun _ _ => True)
def pp_675586_Arrays_copyOf (D : va_G) (I : FieldType → ClassId) (P675578 : List Nat) (F675579 : Nat → va_E) (q675580 : Nat) (p675581 : Int32) (f675582 : Nat → Int32) (n675583 : Nat) : Option Value → va_W → Nat → Nat → Prop := fun r w dc ds => ∃ (P675616 : List Nat) (F675617 : Nat → va_E) (q675614 : Nat) (f675615 : Nat → Int32), r = some (.ref q675614) ∧ w = va_pl P675616 F675617 ∧ rSub P675578 P675616 ∧ rFr [] P675578 F675579 F675617 ∧ F675617 q675580 = .inl (I .int, n675583, .inl f675582) ∧ F675617 q675614 = .inl (I .int, p675581.toInt.toNat, .inl f675615) ∧ q675614 ∈ P675616 ∧ q675614 ∉ P675578 ∧ dc ≤ 1 ∧ ds ≤ p675581.toInt.toNat ∧ (p675581.toInt.toNat : Int) = p675581.toInt ∧ glC f675582 f675615 (n675583 : Int) ∧ glB f675582 f675615 ∧ tr_RArrays_copyOf4 p675581 f675582 n675583 f675615
set_option maxRecDepth 100000 in
set_option maxHeartbeats 4000000 in
theorem cp_675586_Arrays_copyOf (l : Launch) (hl0 : l.stackTraces = false) (D : va_G) (I : FieldType → ClassId) (P675578 : List Nat) (F675579 : Nat → va_E) (q675580 : Nat) (p675581 : Int32) (f675582 : Nat → Int32) (n675583 : Nat) (hmq675580 : q675580 ∈ P675578) (heq675580 : F675579 q675580 = .inl (I .int, n675583, .inl f675582)) (bp675581 : gB p675581 32 32768) (x675584 : (n675583 : Int) < p675581.toInt) (x675585 : ((n675583 : Int) ≤ 16777216)) : CtA (gV D I) l yJ7_copyOf_59c91 cJ7_copyOf_59c91 3 (some (FieldType.array FieldType.int)) 1 18 1 p675581.toInt.toNat [.ref q675580, .int p675581] (va_pl P675578 F675579) (pp_675586_Arrays_copyOf D I P675578 F675579 q675580 p675581 f675582 n675583) gNA := by
  refine CtA_ofF hl0 (by decide +kernel) (Nat.le_of_ble_eq_true rfl) ?_
  refine G_iload_n 1 dr_cJ7_copyOf_59c91_0 rfl ?_
  refine G_aload_n 0 dr_cJ7_copyOf_59c91_1 rfl ?_
  refine Gp_alen (Int32.ofNat n675583) 0 hmq675580 heq675580 dr_cJ7_copyOf_59c91_2 rfl rfl (G_nam fun z675587 hz675587 => ?_)
  have ez675587 : z675587.toInt = (n675583 : Nat) := gI_ofM hz675587 (by omega)
  have bz675587 : gB z675587 0 16777216 := ⟨by omega, by omega⟩
  refine G_icmp_ne 14 dr_cJ7_copyOf_59c91_3 (by decide +kernel) (fun hc675588 => ?_) (fun hc => absurd (show False by have := gC_eq hc; omega) not_false)
  have r675590 : p675581.toInt ≠ z675587.toInt := gC_ne hc675588
  refine G_iload_n 1 dr_cJ7_copyOf_59c91_14 rfl ?_
  refine G_newa 0 (p675581.toInt.toNat, .inl (fun _ => 0)) dr_cJ7_copyOf_59c91_15 rfl rfl (by intro C h; cases h) wr_1_95 (fun _ => ga_int _ _) (g_n0 (by omega)) rfl (show p675581.toInt.toNat * 4 ≤ 536870912 by omega) (show 0 + 1 ≤ 1 by first | omega | decide) (show 0 + p675581.toInt.toNat ≤ p675581.toInt.toNat by first | omega | decide) (fun q675591 => Gp_in (fun P675592 F675593 hq675594 hP675595 e675596 n675597 => ?_))
  refine G_widen (cs' := 1) (sl' := p675581.toInt.toNat) (by omega) (by omega) ?_
  have he675598 : F675593 q675580 = .inl (I .int, n675583, .inl f675582) := (n675597 q675580 (fun h => hq675594 (h ▸ hmq675580))).trans heq675580
  have he675599 : F675593 q675591 = .inl (I .int, p675581.toInt.toNat, .inl (fun _ => 0)) := e675596
  have hm675600 : q675580 ∈ P675592 := (hP675595 q675580).mpr (Or.inl hmq675580)
  have hm675601 : q675591 ∈ P675592 := (hP675595 q675591).mpr (Or.inr rfl)
  have hq675602 : q675591 ∉ P675578 := fun z => hq675594 ((rSub_rf (P := P675578)) q675591 z)
  have hfr675603 : rFr [] P675578 F675579 F675593 := rFr_new (rSub_rf (P := P675578)) hq675594 (rFr_rf (W := []) (P := P675578) (F := F675579)) n675597
  have hsb675604 : rSub P675578 P675592 := rSub_new (rSub_rf (P := P675578)) hP675595
  refine G_astore_n (L' := [(2, .ref q675591), (0, .ref q675580), (1, .int p675581)]) dr_cJ7_copyOf_59c91_17 (Nat.le_of_ble_eq_true rfl) rfl ?_
  refine G_aload_n 1 dr_cJ7_copyOf_59c91_18 rfl ?_
  refine G_iconst 0 dr_cJ7_copyOf_59c91_19 (by decide +kernel) ?_
  refine G_aload_n 0 dr_cJ7_copyOf_59c91_20 rfl ?_
  refine G_iconst 0 dr_cJ7_copyOf_59c91_21 (by decide +kernel) ?_
  refine G_aload_n 1 dr_cJ7_copyOf_59c91_22 rfl ?_
  refine Gp_alen (Int32.ofNat n675583) 0 hm675600 he675598 dr_cJ7_copyOf_59c91_23 rfl rfl (G_nam fun z675605 hz675605 => ?_)
  have ez675605 : z675605.toInt = (n675583 : Nat) := gI_ofM hz675605 (by omega)
  have bz675605 : gB z675605 0 16777216 := ⟨by omega, by omega⟩
  refine G_iload_n 2 dr_cJ7_copyOf_59c91_24 rfl ?_
  refine G_mmin dr_cJ7_copyOf_59c91_25 wr_8_31 wr_3_227 wr_1_6 wr_3_228 (Nat.le_of_ble_eq_true rfl) (Nat.le_of_ble_eq_true rfl) (show 1 ≤ 1 by first | omega | decide) (show p675581.toInt.toNat ≤ p675581.toInt.toNat by first | omega | decide) (G_nam fun z675606 hz675606 => ?_)
  have ez675606 : z675605.toInt ≥ z675606.toInt ∧ p675581.toInt ≥ z675606.toInt ∧ (z675606.toInt = z675605.toInt ∨ z675606.toInt = p675581.toInt) := by have := gI_min hz675606; omega
  have bz675606 : gB z675606 0 32768 := ⟨by omega, by omega⟩
  refine Gp_copyp 0 hm675600 hm675601 he675598 he675599 dr_cJ7_copyOf_59c91_28 wr_8_32 wr_5_113 wr_5_112 wr_1_34 rfl rfl (fun _ => rfl) (by decide) (by decide) (by omega) (by have qa0 : Int32.toInt 0 = 0 := (by decide); omega) (by have qa0 : Int32.toInt 0 = 0 := (by decide); omega) (Nat.le_of_ble_eq_true rfl) (Nat.le_of_ble_eq_true rfl) (fun F675607 e675608 n675609 => ?_)
  obtain ⟨f675610, hf675610⟩ : ∃ z, z = va_cpy f675582 (fun _ => 0) (0 : Int32).toNatClampNeg (0 : Int32).toNatClampNeg z675606.toNatClampNeg := ⟨_, rfl⟩
  rw [← hf675610] at e675608
  have he675611 : F675607 q675580 = .inl (I .int, n675583, .inl f675582) := (n675609 q675580 (fun h => hq675602 (h ▸ hmq675580))).trans he675598
  have he675612 : F675607 q675591 = .inl (I .int, p675581.toInt.toNat, .inl f675610) := e675608
  have hfr675613 : rFr [] P675578 F675579 F675607 := rFr_newp hq675602 hfr675603 n675609
  refine G_aload_n 0 dr_cJ7_copyOf_59c91_31 rfl ?_
  exact G_aretA (FieldType.array FieldType.int) dr_cJ7_copyOf_59c91_32 rfl (by first | exact Or.inl ⟨_, rfl⟩ | exact Or.inr ⟨_, rfl⟩) (Or.inr ⟨_, rfl⟩) (Nat.le_of_ble_eq_true rfl) (show p675581.toInt.toNat ≤ p675581.toInt.toNat by omega) ⟨P675592, F675607, q675591, f675610, rfl, rfl, hsb675604, hfr675613, he675611, he675612, hm675601, hq675602, (Nat.le_of_ble_eq_true rfl), (by omega), (by omega), (glC_cpy hf675610 (by decide) (by decide) (by omega)), (glB_cpy hf675610), (fun R c1 => c1 z675587 z675605 z675606 f675610 ez675587 r675590 ez675605 ez675606 hf675610)⟩
/- tr_RReader_goal: a.0...at, a.0...kind, a.0...place, a.0...value, a.0...goalN, a.0.goalPlaces.#, a.0.goalPlaces.[], a.0.goals.#, a.0.goals.[] -/
def tr_RReader_goal (a0_n : Int32) (a0_at : Int32) (a0_kind : Int32) (a0_place : Int32) (a0_value : Int32) (a0_goalN : Int32) (a0_t_v : Nat → Int32) (p : Nat → Int32) (p2 : Nat) (p3 : Nat → Int32) (p4 : Nat) (o1 : Int32) (o2 : Int32) (o3 : Int32) (o4 : Int32) (o5 : Int32) (o6 : Nat) (o7 : Nat → Int32) (o8 : Nat) (o9 : Nat → Int32) (o10 : gTx) : Prop := ∀ R : (Int32) → (Int32) → (Int32) → (Int32) → (Int32) → (Nat) → (Nat → Int32) → (Nat) → (Nat → Int32) → (gTx) → Prop,
  (∀ (x1 : Int32) (x2 : Nat → Int32) (x3 : gTx) (x4 : Int32) (x5 : Int32) (x6 : Int32) (x7 : Int32) (x8 : Nat → Int32) (x9 : Int32), x1.toInt = (p4 : Nat) → a0_goalN.toInt ≠ x1.toInt → x2 = upd p a0_goalN.toNatClampNeg a0_place → gB x4 0 8192 → gB x5 0 6 → gB x6 0 8192 → tr_RReader_want2 (3 : Int32) a0_n a0_at a0_kind a0_value a0_t_v x4 x5 x6 x7 x3 → x8 = upd p3 a0_goalN.toNatClampNeg a0_value → x9.toInt = a0_goalN.toInt + 1 → R x4 x5 x6 x7 x9 p2 x2 p4 x8 x3) →
  (∀ (x1 : Int32) (x2 : Int32) (x3 : Nat → Int32) (x4 : Int32) (x5 : Nat → Int32) (x6 : Nat → Int32) (x7 : gTx) (x8 : Int32) (x9 : Int32) (x10 : Int32) (x11 : Int32) (x12 : Nat → Int32) (x13 : Int32), x1.toInt = (p4 : Nat) → a0_goalN.toInt = x1.toInt → x2.toInt = 2 * a0_goalN.toInt → tr_RArrays_copyOf4 x2 p3 p4 x3 → x4.toInt = 2 * a0_goalN.toInt → tr_RArrays_copyOf4 x4 p p2 x5 → x6 = upd x5 a0_goalN.toNatClampNeg a0_place → gB x8 0 8192 → gB x9 0 6 → gB x10 0 8192 → tr_RReader_want2 (3 : Int32) a0_n a0_at a0_kind a0_value a0_t_v x8 x9 x10 x11 x7 → x12 = upd x3 a0_goalN.toNatClampNeg a0_value → x13.toInt = a0_goalN.toInt + 1 → R x8 x9 x10 x11 x13 x4.toInt.toNat x6 x2.toInt.toNat x12 x7) →
  R o1 o2 o3 o4 o5 o6 o7 o8 o9 o10
/- tx_RReader_goal: throws -/
def tx_RReader_goal (a0_kind : Int32) (a0_goalN : Int32) (p : Nat → Int32) (p2 : Nat) (p3 : Nat → Int32) (p4 : Nat) : Prop := ∀ R : Prop,
  (∀ (x1 : Int32), x1.toInt = (p4 : Nat) → a0_goalN.toInt ≠ x1.toInt → tx_RReader_want2 (3 : Int32) a0_kind → R) →
  (∀ (x1 : Int32) (x2 : Int32) (x3 : Nat → Int32) (x4 : Int32) (x5 : Nat → Int32), x1.toInt = (p4 : Nat) → a0_goalN.toInt = x1.toInt → x2.toInt = 2 * a0_goalN.toInt → tr_RArrays_copyOf4 x2 p3 p4 x3 → x4.toInt = 2 * a0_goalN.toInt → tr_RArrays_copyOf4 x4 p p2 x5 → tx_RReader_want2 (3 : Int32) a0_kind → R) →
  R
abbrev ky_675496_Reader_goal : gKey := (cX14_goal, 2, "SpillForgeModel$Reader", (some FieldType.int), [], "goal", fun _ _ => True)
def pp_675496_Reader_goal (D : va_G) (I : FieldType → ClassId) (P675462 : List Nat) (F675463 : Nat → va_E) (q675464 : Nat) (q675465 : Nat) (q675466 : Nat) (q675467 : Nat) (p675468 : Int32) (p675469 : Int32) (p675470 : Int32) (p675471 : Int32) (p675472 : Int32) (p675473 : Int32) (qo675474 : Nat) (p675475 : Int32) (p675476 : Int32) (p675477 : Int32) (p675478 : Int32) (f675479 : Nat → Int32) (f675480 : Nat → Int32) (n675481 : Nat) (f675482 : Nat → Int32) (n675483 : Nat) (xt675484 : gTx) : Option Value → va_W → Nat → Nat → Prop := fun r w dc ds => ∃ (P675829 : List Nat) (F675830 : Nat → va_E) (o675817 : Int32) (o675818 : Int32) (o675819 : Int32) (o675820 : Int32) (q675821 : Nat) (o675822 : Int32) (q675823 : Nat) (n675824 : Nat) (f675825 : Nat → Int32) (q675826 : Nat) (n675827 : Nat) (f675828 : Nat → Int32) (xt675831 : gTx), r = some (.int p675472) ∧ w = va_pl P675829 F675830 ∧ rSub P675462 P675829 ∧ rFr [q675467, q675466, q675464] P675462 F675463 F675830 ∧ F675830 q675823 = .inl (I .int, n675824, .inl f675825) ∧ F675830 q675826 = .inl (I .int, n675827, .inl f675828) ∧ F675830 q675464 = .inr (19, [.ref q675465, .int p675468, .int o675817, .int o675818, .int o675819, .int o675820, .int p675470, .ref q675821, .int p675475, .int p675476, .int p675477, .ref q675823, .ref q675826, .int o675822]) ∧ F675830 q675465 = .inl (I .byte, 8192, .inl f675479) ∧ q675823 ∈ P675829 ∧ (q675823 = q675466 ∨ q675823 ∉ P675462) ∧ q675826 ∈ P675829 ∧ (q675826 = q675467 ∨ q675826 ∉ P675462) ∧ dc ≤ (16 * (o675817.toInt - p675469.toInt)).toNat + 2 ∧ ds ≤ (160 * (o675817.toInt - p675469.toInt)).toNat + 4 * (n675827 - n675483) ∧ gB o675817 0 8192 ∧ gB o675818 0 6 ∧ gB o675819 0 8192 ∧ gB o675822 1 1000000 ∧ p675469.toInt ≤ o675817.toInt ∧ prP o675818 p675469 o675817 ∧ o675817.toInt ≤ p675468.toInt ∧ tP I P675829 F675830 o675818 q675821 q675826 q675823 xt675831 ∧ vP o675818 o675820 ∧ vP 3 p675472 ∧ p675470.toInt = 3 ∧ (n675827 : Int) ≤ 2 * (n675483 : Int) ∧ q675826 ≠ q675823 ∧ glC f675482 f675828 p675478.toInt ∧ glL f675828 p675478 p675472 ∧ glP f675825 ∧ (n675827 : Int) = (n675824 : Int) ∧ o675822.toInt = p675478.toInt + 1 ∧ o675822.toInt ≤ (n675827 : Int) ∧ 16 ≤ (n675827 : Int) ∧ (n675827 : Int) ≤ 2 * o675822.toInt + 16 ∧ (n675483 : Int) ≤ (n675827 : Int) ∧ tr_RReader_goal p675468 p675469 p675470 p675471 p675472 p675478 f675479 f675480 n675481 f675482 n675483 o675817 o675818 o675819 o675820 o675822 n675824 f675825 n675827 f675828 xt675831
def xp_675496_Reader_goal (D : va_G) (I : FieldType → ClassId) (P675462 : List Nat) (F675463 : Nat → va_E) (q675464 : Nat) (q675465 : Nat) (q675466 : Nat) (q675467 : Nat) (p675468 : Int32) (p675469 : Int32) (p675470 : Int32) (p675471 : Int32) (p675472 : Int32) (p675473 : Int32) (qo675474 : Nat) (p675475 : Int32) (p675476 : Int32) (p675477 : Int32) (p675478 : Int32) (f675479 : Nat → Int32) (f675480 : Nat → Int32) (n675481 : Nat) (f675482 : Nat → Int32) (n675483 : Nat) (xt675484 : gTx) : String → Nat → va_W → Nat → Nat → Prop := fun E q w dc ds => ∃ (P675833 : List Nat) (F675832 : Nat → va_E), E = "SpillForgeModel$Wrong" ∧ w = va_pl P675833 F675832 ∧ rSub P675462 P675833 ∧ rFr [q675466, q675464] P675462 F675463 F675832 ∧ q ∈ P675833 ∧ q ∉ P675462 ∧ wrF F675832 q ∧ dc ≤ (16 * (p675468.toInt - p675469.toInt)).toNat + 3 ∧ ds ≤ (160 * (p675468.toInt - p675469.toInt)).toNat + 4 * n675483 + 7 ∧ tx_RReader_goal p675470 p675478 f675480 n675481 f675482 n675483
set_option maxRecDepth 100000 in
set_option maxHeartbeats 4000000 in
theorem cp_675496_Reader_goal (l : Launch) (hl0 : l.stackTraces = false) (D : va_G) (I : FieldType → ClassId) (P675462 : List Nat) (F675463 : Nat → va_E) (q675464 : Nat) (q675465 : Nat) (q675466 : Nat) (q675467 : Nat) (p675468 : Int32) (p675469 : Int32) (p675470 : Int32) (p675471 : Int32) (p675472 : Int32) (p675473 : Int32) (qo675474 : Nat) (p675475 : Int32) (p675476 : Int32) (p675477 : Int32) (p675478 : Int32) (f675479 : Nat → Int32) (f675480 : Nat → Int32) (n675481 : Nat) (f675482 : Nat → Int32) (n675483 : Nat) (xt675484 : gTx) (hmq675464 : q675464 ∈ P675462) (hmq675465 : q675465 ∈ P675462) (hmq675466 : q675466 ∈ P675462) (hmq675467 : q675467 ∈ P675462) (heq675464 : F675463 q675464 = .inr (19, [.ref q675465, .int p675468, .int p675469, .int p675470, .int p675471, .int p675472, .int p675473, .ref qo675474, .int p675475, .int p675476, .int p675477, .ref q675466, .ref q675467, .int p675478])) (heq675465 : F675463 q675465 = .inl (I .byte, 8192, .inl f675479)) (heq675466 : F675463 q675466 = .inl (I .int, n675481, .inl f675480)) (heq675467 : F675463 q675467 = .inl (I .int, n675483, .inl f675482)) (hneq675465q675466 : q675465 ≠ q675466) (hneq675465q675467 : q675465 ≠ q675467) (hneq675466q675467 : q675466 ≠ q675467) (bp675468 : gB p675468 0 8192) (bp675469 : gB p675469 0 8192) (bp675470 : gB p675470 0 6) (bp675471 : gB p675471 0 8192) (bp675473 : gB p675473 0 6) (bp675475 : gB p675475 (-1) 8192) (bp675476 : gB p675476 0 4) (bp675477 : gB p675477 0 1000000) (bp675478 : gB p675478 0 1000000) (bf675479 : gF f675479 (-128) 127) (x675485 : p675469.toInt ≤ p675468.toInt) (x675486 : tP I P675462 F675463 p675470 qo675474 q675467 q675466 xt675484) (x675487 : vP p675470 p675472) (x675488 : (n675483 : Int) = (n675481 : Int)) (x675489 : p675478.toInt ≤ (n675483 : Int)) (x675490 : 16 ≤ (n675483 : Int)) (x675491 : (n675483 : Int) ≤ 2 * p675478.toInt + 16) (x675492 : p675478.toInt ≤ 16000) (x675493 : glP f675480) (x675494 : ((n675481 : Int) ≤ 16777216)) (x675495 : ((n675483 : Int) ≤ 16777216)) : CtA (gV D I) l yX14_goal cX14_goal 2 (some FieldType.int) 9 199 ((16 * (p675468.toInt - p675469.toInt)).toNat + 3) ((160 * (p675468.toInt - p675469.toInt)).toNat + 4 * n675483 + 7) [.ref q675464] (va_pl P675462 F675463) (pp_675496_Reader_goal D I P675462 F675463 q675464 q675465 q675466 q675467 p675468 p675469 p675470 p675471 p675472 p675473 qo675474 p675475 p675476 p675477 p675478 f675479 f675480 n675481 f675482 n675483 xt675484) (xp_675496_Reader_goal D I P675462 F675463 q675464 q675465 q675466 q675467 p675468 p675469 p675470 p675471 p675472 p675473 qo675474 p675475 p675476 p675477 p675478 f675479 f675480 n675481 f675482 n675483 xt675484) := by
  refine CtA_of hl0 (by decide) (Nat.le_of_ble_eq_true rfl) ?_
  have bp675472 := gB_any p675472
  refine G_aload_n 0 dr_cX14_goal_0 rfl ?_
  refine Gp_get 13 hmq675464 heq675464 dr_cX14_goal_1 (gk_X14 D I) (Nat.le_of_ble_eq_true rfl) wr_9_51 rfl ?_
  refine G_aload_n 0 dr_cX14_goal_4 rfl ?_
  refine Gp_get 12 hmq675464 heq675464 dr_cX14_goal_5 (gk_X14 D I) (Nat.le_of_ble_eq_true rfl) wr_9_50 rfl ?_
  refine Gp_alen (Int32.ofNat n675483) 0 hmq675467 heq675467 dr_cX14_goal_8 rfl rfl (G_nam fun z675497 hz675497 => ?_)
  have ez675497 : z675497.toInt = (n675483 : Nat) := gI_ofM hz675497 (by omega)
  have bz675497 : gB z675497 0 16777216 := ⟨by omega, by omega⟩
  refine G_icmp_ne 46 dr_cX14_goal_9 (by decide +kernel) (fun hc675498 => ?_) (fun hc675498 => ?_)
  · have r675499 : p675478.toInt ≠ z675497.toInt := gC_ne hc675498
    refine G_aload_n 0 dr_cX14_goal_46 rfl ?_
    refine Gp_get 11 hmq675464 heq675464 dr_cX14_goal_47 (gk_X14 D I) (Nat.le_of_ble_eq_true rfl) wr_9_49 rfl ?_
    refine G_aload_n 0 dr_cX14_goal_50 rfl ?_
    refine Gp_get 13 hmq675464 heq675464 dr_cX14_goal_51 (gk_X14 D I) (Nat.le_of_ble_eq_true rfl) wr_9_51 rfl ?_
    refine G_aload_n 0 dr_cX14_goal_54 rfl ?_
    refine Gp_get 4 hmq675464 heq675464 dr_cX14_goal_55 (gk_X14 D I) (Nat.le_of_ble_eq_true rfl) wr_9_40 rfl ?_
    refine Gp_iast 0 hmq675466 heq675466 dr_cX14_goal_58 rfl (gB_inr (by omega) (by omega)) (fun F675500 e675501 n675502 => ?_)
    obtain ⟨f675503, hf675503⟩ : ∃ z, z = upd f675480 p675478.toNatClampNeg p675471 := ⟨_, rfl⟩
    rw [← hf675503] at e675501
    have he675504 : F675500 q675464 = .inr (19, [.ref q675465, .int p675468, .int p675469, .int p675470, .int p675471, .int p675472, .int p675473, .ref qo675474, .int p675475, .int p675476, .int p675477, .ref q675466, .ref q675467, .int p675478]) := (n675502 q675464 (rn_oa heq675464 heq675466)).trans heq675464
    have he675505 : F675500 q675465 = .inl (I .byte, 8192, .inl f675479) := (n675502 q675465 hneq675465q675466).trans heq675465
    have he675506 : F675500 q675467 = .inl (I .int, n675483, .inl f675482) := (n675502 q675467 (Ne.symm hneq675466q675467)).trans heq675467
    have he675507 : F675500 q675466 = .inl (I .int, n675481, .inl f675503) := e675501
    have hfr675508 : rFr [q675466] P675462 F675463 F675500 := rFr_put (rFr_rf (W := []) (P := P675462) (F := F675463)) n675502
    have tp675509 : tP I P675462 F675500 p675470 qo675474 q675467 q675466 xt675484 := tP_pa x675486 heq675466 (Or.inr rfl) n675502
    refine G_aload_n 0 dr_cX14_goal_59 rfl ?_
    refine G_iconst 3 dr_cX14_goal_60 (by decide +kernel) ?_
    refine Gw_callV (As := [.int 3]) (gV_ok D I) (cp_674694_Reader_want l hl0 D I P675462 F675500 q675464 q675465 3 p675468 p675469 p675470 p675471 p675472 p675473 qo675474 p675475 p675476 p675477 q675466 q675467 p675478 f675479 xt675484 hmq675464 hmq675465 he675504 he675505 (gB_w (gBl (show Int32.toInt 3 = 3 by decide)) (by decide) (by decide)) bp675468 bp675469 bp675470 bp675471 bp675473 bp675475 bp675476 bp675477 bp675478 bf675479 (by omega) hmq675467 hmq675466 tp675509 x675487) dr_cX14_goal_61 ⟨wr_9_93, wr_1_32, wr_9_96, by decide, rfl, (Nat.le_of_ble_eq_true rfl), (Nat.le_of_ble_eq_true rfl)⟩ wr_9_95 wr_p_80 hmq675464 he675504 rfl (show 0 + ((16 * (p675468.toInt - p675469.toInt)).toNat + 1) ≤ ((16 * (p675468.toInt - p675469.toInt)).toNat + 3) by first | omega | decide) (show 0 + ((160 * (p675468.toInt - p675469.toInt)).toNat + 7) ≤ ((160 * (p675468.toInt - p675469.toInt)).toNat + 4 * n675483 + 7) by first | omega | decide) (Nat.le_of_ble_eq_true rfl) (fun r675513 w675514 dc675510 ds675511 hp675512 => ?_) (fun _ qx675526 _ dc675524 ds675525 hx => by obtain ⟨P675522, F675523, rfl, rfl, hsb675515, hfr675516, hq675517, hqn675518, hwr675519, hdc675520, hds675521, ht675527⟩ := hx; exact GT_outA rfl (show 0 + dc675524 ≤ ((16 * (p675468.toInt - p675469.toInt)).toNat + 3) by omega) (show 0 + ds675525 ≤ ((160 * (p675468.toInt - p675469.toInt)).toNat + 4 * n675483 + 7) by omega) ⟨P675522, F675523, rfl, rfl, (rSub_tr (rSub_rf (P := P675462)) hsb675515), (rFr_v (show rFr [q675466] P675462 F675463 F675523 from rFr_call (rSub_rf (P := P675462)) hfr675508 hfr675516 (fun b hb hn => ⟨(nm_c (fun e => hn (e ▸ List.mem_cons_self)) nm_n), nm_n⟩)) (fun b hn => (nm_c (fun e => hn (e ▸ List.mem_cons_self)) nm_n))), hq675517, (fun z => hqn675518 ((rSub_rf (P := P675462)) _ z)), hwr675519, (by omega), (by omega), (fun R c1 c2 => c1 z675497 ez675497 r675499 ht675527)⟩)
    obtain ⟨P675542, F675543, o675528, o675529, o675530, o675531, q675532, xt675541, rfl, rfl, hsb675544, hfr675545, he675546, he675547, hdc, hds, bo675528, bo675529, bo675530, x675533, x675534, x675535, x675536, x675537, x675538, x675539, ht675540⟩ := hp675512
    have hm675548 : q675464 ∈ P675542 := hsb675544 q675464 hmq675464
    have hm675549 : q675465 ∈ P675542 := hsb675544 q675465 hmq675465
    have hm675550 : q675466 ∈ P675542 := hsb675544 q675466 hmq675466
    have hm675551 : q675467 ∈ P675542 := hsb675544 q675467 hmq675467
    have hsb675552 : rSub P675462 P675542 := rSub_tr (rSub_rf (P := P675462)) hsb675544
    have he675553 : F675543 q675466 = .inl (I .int, n675481, .inl f675503) := (hfr675545 q675466 hmq675466 (nm_c (rn_ao he675507 he675504) nm_n)).trans he675507
    have he675554 : F675543 q675467 = .inl (I .int, n675483, .inl f675482) := (hfr675545 q675467 hmq675467 (nm_c (rn_ao he675506 he675504) nm_n)).trans he675506
    have hfr675555 : rFr [q675466, q675464] P675462 F675463 F675543 := rFr_call (rSub_rf (P := P675462)) hfr675508 hfr675545 (fun b hb hn => ⟨(nm_c (fun e => hn (e ▸ List.mem_cons_self)) nm_n), (nm_c (fun e => hn (e ▸ (List.mem_cons_of_mem _ List.mem_cons_self))) nm_n)⟩)
    have bo675531 := gB_any o675531
    rw [show Int32.toInt 3 = 3 from by decide] at x675539
    change G _ _ _ _ _ _ _ (.int p675472 :: _) _ _ _
    refine G_widen (cs' := (16 * (o675528.toInt - p675469.toInt)).toNat) (sl' := (160 * (o675528.toInt - p675469.toInt)).toNat) (by omega) (by omega) ?_
    refine G_istore_n (L' := [(1, .int p675472), (0, .ref q675464)]) dr_cX14_goal_64 (Nat.le_of_ble_eq_true rfl) rfl ?_
    refine G_aload_n 1 dr_cX14_goal_65 rfl ?_
    refine Gp_get 12 hm675548 he675546 dr_cX14_goal_66 (gk_X14 D I) (Nat.le_of_ble_eq_true rfl) wr_9_50 rfl ?_
    refine G_aload_n 1 dr_cX14_goal_69 rfl ?_
    refine Gp_get 13 hm675548 he675546 dr_cX14_goal_70 (gk_X14 D I) (Nat.le_of_ble_eq_true rfl) wr_9_51 rfl ?_
    refine G_iload_n 0 dr_cX14_goal_73 rfl ?_
    refine Gp_iast 0 hm675551 he675554 dr_cX14_goal_74 rfl (gB_inr (by omega) (by omega)) (fun F675556 e675557 n675558 => ?_)
    obtain ⟨f675559, hf675559⟩ : ∃ z, z = upd f675482 p675478.toNatClampNeg p675472 := ⟨_, rfl⟩
    rw [← hf675559] at e675557
    have he675560 : F675556 q675466 = .inl (I .int, n675481, .inl f675503) := (n675558 q675466 hneq675466q675467).trans he675553
    have he675561 : F675556 q675464 = .inr (19, [.ref q675465, .int p675468, .int o675528, .int o675529, .int o675530, .int o675531, .int p675470, .ref q675532, .int p675475, .int p675476, .int p675477, .ref q675466, .ref q675467, .int p675478]) := (n675558 q675464 (rn_oa he675546 he675554)).trans he675546
    have he675562 : F675556 q675465 = .inl (I .byte, 8192, .inl f675479) := (n675558 q675465 hneq675465q675467).trans he675547
    have he675563 : F675556 q675467 = .inl (I .int, n675483, .inl f675559) := e675557
    have hfr675564 : rFr [q675467, q675466, q675464] P675462 F675463 F675556 := rFr_put hfr675555 n675558
    have tp675565 : tP I P675542 F675556 o675529 q675532 q675467 q675466 xt675541 := tP_pa x675536 he675554 (Or.inl rfl) n675558
    refine G_aload_n 1 dr_cX14_goal_75 rfl ?_
    refine G_dup dr_cX14_goal_76 rfl ?_
    refine Gp_get 13 hm675548 he675561 dr_cX14_goal_77 (gk_X14 D I) (Nat.le_of_ble_eq_true rfl) wr_9_51 rfl ?_
    refine G_iconst 1 dr_cX14_goal_80 (by decide +kernel) ?_
    refine G_iadd dr_cX14_goal_81 (G_nam fun z675566 hz675566 => ?_)
    have ez675566 : z675566.toInt = p675478.toInt + 1 := by rw [gI_add hz675566 bp675478 (gBl (show Int32.toInt 1 = 1 by decide)) (by decide) (by decide), show Int32.toInt 1 = 1 from by decide]
    have bz675566 : gB z675566 1 1000001 := gB_add (gI_add hz675566 bp675478 (gBl (show Int32.toInt 1 = 1 by decide)) (by decide) (by decide)) bp675478 (gBl (show Int32.toInt 1 = 1 by decide)) (by decide) (by decide)
    refine Gp_put 13 hm675548 he675561 dr_cX14_goal_82 (gk_X14 D I) (Nat.le_of_ble_eq_true rfl) wr_9_51 rfl rfl rfl (Nat.le_of_ble_eq_true rfl) (fun F675567 e675568 n675569 => ?_)
    have he675570 : F675567 q675466 = .inl (I .int, n675481, .inl f675503) := (n675569 q675466 (rn_ao he675560 he675561)).trans he675560
    have he675571 : F675567 q675467 = .inl (I .int, n675483, .inl f675559) := (n675569 q675467 (rn_ao he675563 he675561)).trans he675563
    have he675572 : F675567 q675465 = .inl (I .byte, 8192, .inl f675479) := (n675569 q675465 (rn_ao he675562 he675561)).trans he675562
    have he675573 : F675567 q675464 = .inr (19, [.ref q675465, .int p675468, .int o675528, .int o675529, .int o675530, .int o675531, .int p675470, .ref q675532, .int p675475, .int p675476, .int p675477, .ref q675466, .ref q675467, .int z675566]) := e675568
    have hfr675574 : rFr [q675467, q675466, q675464] P675462 F675463 F675567 := rFr_put' (List.mem_cons_of_mem _ (List.mem_cons_of_mem _ List.mem_cons_self)) hfr675564 n675569
    have tp675575 : tP I P675542 F675567 o675529 q675532 q675467 q675466 xt675541 := tP_put tp675565 he675561 (by decide) n675569
    refine G_iload_n 0 dr_cX14_goal_85 rfl ?_
    exact G_iretA dr_cX14_goal_86 rfl (show (16 * (o675528.toInt - p675469.toInt)).toNat ≤ ((16 * (p675468.toInt - p675469.toInt)).toNat + 3) by omega) (show (160 * (o675528.toInt - p675469.toInt)).toNat ≤ ((160 * (p675468.toInt - p675469.toInt)).toNat + 4 * n675483 + 7) by omega) ⟨P675542, F675567, o675528, o675529, o675530, o675531, q675532, z675566, q675466, n675481, f675503, q675467, n675483, f675559, xt675541, rfl, rfl, hsb675552, hfr675574, he675570, he675571, he675573, he675572, hm675550, (Or.inl rfl), hm675551, (Or.inl rfl), (by omega), (by omega), bo675528, bo675529, bo675530, ⟨by omega, by omega⟩, (by omega), x675534, (by omega), tp675575, x675537, x675538, (by omega), (by omega), (Ne.symm hneq675466q675467), (glC_u hf675559 glC_rf (by omega)), (glL_u hf675559), (glP_u hf675503 x675493 (by first | assumption | exact ⟨by omega, by omega⟩)), (by omega), (by omega), (by omega), (by omega), (by omega), (by omega), (fun R c1 c2 => c1 z675497 f675503 xt675541 o675528 o675529 o675530 o675531 f675559 z675566 ez675497 r675499 hf675503 bo675528 bo675529 bo675530 ht675540 hf675559 ez675566)⟩
  · have r675576 : p675478.toInt = z675497.toInt := gC_eq hc675498
    have bz675497' : gB z675497 0 1000000 := ⟨by omega, by omega⟩
    refine G_aload_n 0 dr_cX14_goal_12 rfl ?_
    refine G_aload_n 0 dr_cX14_goal_13 rfl ?_
    refine Gp_get 12 hmq675464 heq675464 dr_cX14_goal_14 (gk_X14 D I) (Nat.le_of_ble_eq_true rfl) wr_9_50 rfl ?_
    refine G_iconst 2 dr_cX14_goal_17 (by decide +kernel) ?_
    refine G_aload_n 0 dr_cX14_goal_18 rfl ?_
    refine Gp_get 13 hmq675464 heq675464 dr_cX14_goal_19 (gk_X14 D I) (Nat.le_of_ble_eq_true rfl) wr_9_51 rfl ?_
    refine G_imul dr_cX14_goal_22 (G_nam fun z675577 hz675577 => ?_)
    have ez675577 : z675577.toInt = 2 * p675478.toInt := by rw [gI_mul hz675577 (gBl (show Int32.toInt 2 = 2 by decide)) bp675478 (by decide) (by decide) (by decide), show Int32.toInt 2 = 2 from by decide]
    have bz675577 : gB z675577 0 2000000 := gB_mul hz675577 (gBl (show Int32.toInt 2 = 2 by decide)) bp675478 (by decide) (by decide) (by decide) (by decide)
    refine Gw_callS (As := [.ref q675467, .int z675577]) (gV_ok D I) (cp_675586_Arrays_copyOf l hl0 D I P675462 F675463 q675467 z675577 f675482 n675483 hmq675467 heq675467 ⟨by omega, by omega⟩ (by omega) (by omega)) dr_cX14_goal_23 ⟨wr_10_114, wr_1_30, wr_10_116, by decide, rfl, (Nat.le_of_ble_eq_true rfl), (Nat.le_of_ble_eq_true rfl)⟩ wr_10_115 (show 0 + 1 ≤ ((16 * (p675468.toInt - p675469.toInt)).toNat + 3) by first | omega | decide) (show 0 + z675577.toInt.toNat ≤ ((160 * (p675468.toInt - p675469.toInt)).toNat + 4 * n675483 + 7) by first | omega | decide) (Nat.le_of_ble_eq_true rfl) (fun r675621 w675622 dc675618 ds675619 hp675620 => ?_) (fun _ _ _ _ _ z => z.elim)
    obtain ⟨P675629, F675630, q675623, f675624, rfl, rfl, hsb675631, hfr675632, he675633, he675634, hm675635, hq675636, hdc, hds, x675625, x675626, x675627, ht675628⟩ := hp675620
    have hm675637 : q675464 ∈ P675629 := hsb675631 q675464 hmq675464
    have hm675638 : q675465 ∈ P675629 := hsb675631 q675465 hmq675465
    have hm675639 : q675466 ∈ P675629 := hsb675631 q675466 hmq675466
    have hm675640 : q675467 ∈ P675629 := hsb675631 q675467 hmq675467
    have hq675641 : q675623 ∉ P675462 := fun z => hq675636 ((rSub_rf (P := P675462)) q675623 z)
    have hsb675642 : rSub P675462 P675629 := rSub_tr (rSub_rf (P := P675462)) hsb675631
    have he675643 : F675630 q675464 = .inr (19, [.ref q675465, .int p675468, .int p675469, .int p675470, .int p675471, .int p675472, .int p675473, .ref qo675474, .int p675475, .int p675476, .int p675477, .ref q675466, .ref q675467, .int p675478]) := (hfr675632 q675464 hmq675464 nm_n).trans heq675464
    have he675644 : F675630 q675465 = .inl (I .byte, 8192, .inl f675479) := (hfr675632 q675465 hmq675465 nm_n).trans heq675465
    have he675645 : F675630 q675466 = .inl (I .int, n675481, .inl f675480) := (hfr675632 q675466 hmq675466 nm_n).trans heq675466
    have hfr675646 : rFr [] P675462 F675463 F675630 := rFr_call (rSub_rf (P := P675462)) (rFr_rf (W := []) (P := P675462) (F := F675463)) hfr675632 (fun b hb hn => ⟨nm_n, nm_n⟩)
    have tp675647 : tP I P675629 F675630 p675470 qo675474 q675467 q675466 xt675484 := tP_new x675486 hsb675631 (fun b hb => hfr675632 b hb (fun z => by cases z)) (Or.inl rfl) (Or.inl rfl)
    have tp675648 : tP I P675629 F675630 p675470 qo675474 q675623 q675466 xt675484 := tP_new x675486 hsb675631 (fun b hb => hfr675632 b hb (fun z => by cases z)) (Or.inr hq675636) (Or.inl rfl)
    have tp675649 : tP I P675629 F675630 p675470 qo675474 q675467 q675623 xt675484 := tP_new x675486 hsb675631 (fun b hb => hfr675632 b hb (fun z => by cases z)) (Or.inl rfl) (Or.inr hq675636)
    change G _ _ _ _ _ _ _ (.ref q675623 :: _) _ _ _
    refine G_widen (cs' := 1) (sl' := z675577.toInt.toNat) (by omega) (by omega) ?_
    refine Gp_put 12 hm675637 he675643 dr_cX14_goal_26 (gk_X14 D I) (Nat.le_of_ble_eq_true rfl) wr_9_50 rfl rfl rfl (Nat.le_of_ble_eq_true rfl) (fun F675650 e675651 n675652 => ?_)
    have he675653 : F675650 q675465 = .inl (I .byte, 8192, .inl f675479) := (n675652 q675465 (rn_ao he675644 he675643)).trans he675644
    have he675654 : F675650 q675466 = .inl (I .int, n675481, .inl f675480) := (n675652 q675466 (rn_ao he675645 he675643)).trans he675645
    have he675655 : F675650 q675467 = .inl (I .int, n675483, .inl f675482) := (n675652 q675467 (rn_ao he675633 he675643)).trans he675633
    have he675656 : F675650 q675623 = .inl (I .int, z675577.toInt.toNat, .inl f675624) := (n675652 q675623 (fun h => hq675641 (h ▸ hmq675464))).trans he675634
    have he675657 : F675650 q675464 = .inr (19, [.ref q675465, .int p675468, .int p675469, .int p675470, .int p675471, .int p675472, .int p675473, .ref qo675474, .int p675475, .int p675476, .int p675477, .ref q675466, .ref q675623, .int p675478]) := e675651
    have hfr675658 : rFr [q675464] P675462 F675463 F675650 := rFr_put hfr675646 n675652
    have tp675659 : tP I P675629 F675650 p675470 qo675474 q675467 q675466 xt675484 := tP_put tp675647 he675643 (by decide) n675652
    have tp675660 : tP I P675629 F675650 p675470 qo675474 q675623 q675466 xt675484 := tP_put tp675648 he675643 (by decide) n675652
    have tp675661 : tP I P675629 F675650 p675470 qo675474 q675467 q675623 xt675484 := tP_put tp675649 he675643 (by decide) n675652
    refine G_aload_n 0 dr_cX14_goal_29 rfl ?_
    refine G_aload_n 0 dr_cX14_goal_30 rfl ?_
    refine Gp_get 11 hm675637 he675657 dr_cX14_goal_31 (gk_X14 D I) (Nat.le_of_ble_eq_true rfl) wr_9_49 rfl ?_
    refine G_iconst 2 dr_cX14_goal_34 (by decide +kernel) ?_
    refine G_aload_n 0 dr_cX14_goal_35 rfl ?_
    refine Gp_get 13 hm675637 he675657 dr_cX14_goal_36 (gk_X14 D I) (Nat.le_of_ble_eq_true rfl) wr_9_51 rfl ?_
    refine G_imul dr_cX14_goal_39 (G_nam fun z675662 hz675662 => ?_)
    have ez675662 : z675662.toInt = 2 * p675478.toInt := by rw [gI_mul hz675662 (gBl (show Int32.toInt 2 = 2 by decide)) bp675478 (by decide) (by decide) (by decide), show Int32.toInt 2 = 2 from by decide]
    have bz675662 : gB z675662 0 2000000 := gB_mul hz675662 (gBl (show Int32.toInt 2 = 2 by decide)) bp675478 (by decide) (by decide) (by decide) (by decide)
    refine Gw_callS (As := [.ref q675466, .int z675662]) (gV_ok D I) (cp_675586_Arrays_copyOf l hl0 D I P675629 F675650 q675466 z675662 f675480 n675481 hm675639 he675654 ⟨by omega, by omega⟩ (by omega) (by omega)) dr_cX14_goal_40 ⟨wr_10_114, wr_1_30, wr_10_116, by decide, rfl, (Nat.le_of_ble_eq_true rfl), (Nat.le_of_ble_eq_true rfl)⟩ wr_10_115 (show 1 + 1 ≤ ((16 * (p675468.toInt - p675469.toInt)).toNat + 3) by first | omega | decide) (show z675577.toInt.toNat + z675662.toInt.toNat ≤ ((160 * (p675468.toInt - p675469.toInt)).toNat + 4 * n675483 + 7) by first | omega | decide) (Nat.le_of_ble_eq_true rfl) (fun r675666 w675667 dc675663 ds675664 hp675665 => ?_) (fun _ _ _ _ _ z => z.elim)
    obtain ⟨P675674, F675675, q675668, f675669, rfl, rfl, hsb675676, hfr675677, he675678, he675679, hm675680, hq675681, hdc, hds, x675670, x675671, x675672, ht675673⟩ := hp675665
    have hm675682 : q675464 ∈ P675674 := hsb675676 q675464 hm675637
    have hm675683 : q675465 ∈ P675674 := hsb675676 q675465 hm675638
    have hm675684 : q675466 ∈ P675674 := hsb675676 q675466 hm675639
    have hm675685 : q675467 ∈ P675674 := hsb675676 q675467 hm675640
    have hm675686 : q675623 ∈ P675674 := hsb675676 q675623 hm675635
    have hq675687 : q675668 ∉ P675462 := fun z => hq675681 (hsb675642 q675668 z)
    have hsb675688 : rSub P675462 P675674 := rSub_tr hsb675642 hsb675676
    have he675689 : F675675 q675464 = .inr (19, [.ref q675465, .int p675468, .int p675469, .int p675470, .int p675471, .int p675472, .int p675473, .ref qo675474, .int p675475, .int p675476, .int p675477, .ref q675466, .ref q675623, .int p675478]) := (hfr675677 q675464 hm675637 nm_n).trans he675657
    have he675690 : F675675 q675465 = .inl (I .byte, 8192, .inl f675479) := (hfr675677 q675465 hm675638 nm_n).trans he675653
    have he675691 : F675675 q675467 = .inl (I .int, n675483, .inl f675482) := (hfr675677 q675467 hm675640 nm_n).trans he675655
    have he675692 : F675675 q675623 = .inl (I .int, z675577.toInt.toNat, .inl f675624) := (hfr675677 q675623 hm675635 nm_n).trans he675656
    have hfr675693 : rFr [q675464] P675462 F675463 F675675 := rFr_call hsb675642 hfr675658 hfr675677 (fun b hb hn => ⟨(nm_c (fun e => hn (e ▸ List.mem_cons_self)) nm_n), nm_n⟩)
    have tp675694 : tP I P675674 F675675 p675470 qo675474 q675467 q675466 xt675484 := tP_new tp675659 hsb675676 (fun b hb => hfr675677 b hb (fun z => by cases z)) (Or.inl rfl) (Or.inl rfl)
    have tp675695 : tP I P675674 F675675 p675470 qo675474 q675668 q675466 xt675484 := tP_new tp675659 hsb675676 (fun b hb => hfr675677 b hb (fun z => by cases z)) (Or.inr hq675681) (Or.inl rfl)
    have tp675696 : tP I P675674 F675675 p675470 qo675474 q675467 q675668 xt675484 := tP_new tp675659 hsb675676 (fun b hb => hfr675677 b hb (fun z => by cases z)) (Or.inl rfl) (Or.inr hq675681)
    have tp675697 : tP I P675674 F675675 p675470 qo675474 q675623 q675466 xt675484 := tP_new tp675660 hsb675676 (fun b hb => hfr675677 b hb (fun z => by cases z)) (Or.inl rfl) (Or.inl rfl)
    have tp675698 : tP I P675674 F675675 p675470 qo675474 q675668 q675466 xt675484 := tP_new tp675660 hsb675676 (fun b hb => hfr675677 b hb (fun z => by cases z)) (Or.inr hq675681) (Or.inl rfl)
    have tp675699 : tP I P675674 F675675 p675470 qo675474 q675623 q675668 xt675484 := tP_new tp675660 hsb675676 (fun b hb => hfr675677 b hb (fun z => by cases z)) (Or.inl rfl) (Or.inr hq675681)
    have tp675700 : tP I P675674 F675675 p675470 qo675474 q675467 q675623 xt675484 := tP_new tp675661 hsb675676 (fun b hb => hfr675677 b hb (fun z => by cases z)) (Or.inl rfl) (Or.inl rfl)
    have tp675701 : tP I P675674 F675675 p675470 qo675474 q675668 q675623 xt675484 := tP_new tp675661 hsb675676 (fun b hb => hfr675677 b hb (fun z => by cases z)) (Or.inr hq675681) (Or.inl rfl)
    have tp675702 : tP I P675674 F675675 p675470 qo675474 q675467 q675668 xt675484 := tP_new tp675661 hsb675676 (fun b hb => hfr675677 b hb (fun z => by cases z)) (Or.inl rfl) (Or.inr hq675681)
    have hne675703 : q675623 ≠ q675668 := fun h => hq675681 (h ▸ hm675635)
    change G _ _ _ _ _ _ _ (.ref q675668 :: _) _ _ _
    refine G_widen (cs' := 2) (sl' := z675577.toInt.toNat + z675662.toInt.toNat) (by omega) (by omega) ?_
    refine Gp_put 11 hm675682 he675689 dr_cX14_goal_43 (gk_X14 D I) (Nat.le_of_ble_eq_true rfl) wr_9_49 rfl rfl rfl (Nat.le_of_ble_eq_true rfl) (fun F675704 e675705 n675706 => ?_)
    have he675707 : F675704 q675465 = .inl (I .byte, 8192, .inl f675479) := (n675706 q675465 (rn_ao he675690 he675689)).trans he675690
    have he675708 : F675704 q675467 = .inl (I .int, n675483, .inl f675482) := (n675706 q675467 (rn_ao he675691 he675689)).trans he675691
    have he675709 : F675704 q675623 = .inl (I .int, z675577.toInt.toNat, .inl f675624) := (n675706 q675623 (fun h => hq675641 (h ▸ hmq675464))).trans he675692
    have he675710 : F675704 q675466 = .inl (I .int, n675481, .inl f675480) := (n675706 q675466 (rn_ao he675678 he675689)).trans he675678
    have he675711 : F675704 q675668 = .inl (I .int, z675662.toInt.toNat, .inl f675669) := (n675706 q675668 (fun h => hq675687 (h ▸ hmq675464))).trans he675679
    have he675712 : F675704 q675464 = .inr (19, [.ref q675465, .int p675468, .int p675469, .int p675470, .int p675471, .int p675472, .int p675473, .ref qo675474, .int p675475, .int p675476, .int p675477, .ref q675668, .ref q675623, .int p675478]) := e675705
    have hfr675713 : rFr [q675464] P675462 F675463 F675704 := rFr_put' List.mem_cons_self hfr675693 n675706
    have tp675714 : tP I P675674 F675704 p675470 qo675474 q675467 q675466 xt675484 := tP_put tp675694 he675689 (by decide) n675706
    have tp675715 : tP I P675674 F675704 p675470 qo675474 q675668 q675466 xt675484 := tP_put tp675695 he675689 (by decide) n675706
    have tp675716 : tP I P675674 F675704 p675470 qo675474 q675467 q675668 xt675484 := tP_put tp675696 he675689 (by decide) n675706
    have tp675717 : tP I P675674 F675704 p675470 qo675474 q675623 q675466 xt675484 := tP_put tp675697 he675689 (by decide) n675706
    have tp675718 : tP I P675674 F675704 p675470 qo675474 q675668 q675466 xt675484 := tP_put tp675698 he675689 (by decide) n675706
    have tp675719 : tP I P675674 F675704 p675470 qo675474 q675623 q675668 xt675484 := tP_put tp675699 he675689 (by decide) n675706
    have tp675720 : tP I P675674 F675704 p675470 qo675474 q675467 q675623 xt675484 := tP_put tp675700 he675689 (by decide) n675706
    have tp675721 : tP I P675674 F675704 p675470 qo675474 q675668 q675623 xt675484 := tP_put tp675701 he675689 (by decide) n675706
    have tp675722 : tP I P675674 F675704 p675470 qo675474 q675467 q675668 xt675484 := tP_put tp675702 he675689 (by decide) n675706
    refine G_aload_n 0 dr_cX14_goal_46 rfl ?_
    refine Gp_get 11 hm675682 he675712 dr_cX14_goal_47 (gk_X14 D I) (Nat.le_of_ble_eq_true rfl) wr_9_49 rfl ?_
    refine G_aload_n 0 dr_cX14_goal_50 rfl ?_
    refine Gp_get 13 hm675682 he675712 dr_cX14_goal_51 (gk_X14 D I) (Nat.le_of_ble_eq_true rfl) wr_9_51 rfl ?_
    refine G_aload_n 0 dr_cX14_goal_54 rfl ?_
    refine Gp_get 4 hm675682 he675712 dr_cX14_goal_55 (gk_X14 D I) (Nat.le_of_ble_eq_true rfl) wr_9_40 rfl ?_
    refine Gp_iast 0 hm675680 he675711 dr_cX14_goal_58 rfl (gB_inr (by omega) (by omega)) (fun F675723 e675724 n675725 => ?_)
    obtain ⟨f675726, hf675726⟩ : ∃ z, z = upd f675669 p675478.toNatClampNeg p675471 := ⟨_, rfl⟩
    rw [← hf675726] at e675724
    have he675727 : F675723 q675464 = .inr (19, [.ref q675465, .int p675468, .int p675469, .int p675470, .int p675471, .int p675472, .int p675473, .ref qo675474, .int p675475, .int p675476, .int p675477, .ref q675668, .ref q675623, .int p675478]) := (n675725 q675464 (fun h => hq675687 (h ▸ hmq675464))).trans he675712
    have he675728 : F675723 q675465 = .inl (I .byte, 8192, .inl f675479) := (n675725 q675465 (fun h => hq675687 (h ▸ hmq675465))).trans he675707
    have he675729 : F675723 q675467 = .inl (I .int, n675483, .inl f675482) := (n675725 q675467 (fun h => hq675687 (h ▸ hmq675467))).trans he675708
    have he675730 : F675723 q675623 = .inl (I .int, z675577.toInt.toNat, .inl f675624) := (n675725 q675623 hne675703).trans he675709
    have he675731 : F675723 q675466 = .inl (I .int, n675481, .inl f675480) := (n675725 q675466 (fun h => hq675687 (h ▸ hmq675466))).trans he675710
    have he675732 : F675723 q675668 = .inl (I .int, z675662.toInt.toNat, .inl f675726) := e675724
    have hfr675733 : rFr [q675464] P675462 F675463 F675723 := rFr_newp hq675687 hfr675713 n675725
    have tp675735 : tP I P675674 F675723 p675470 qo675474 q675668 q675466 xt675484 := tP_pa tp675715 he675711 (Or.inl rfl) n675725
    have tp675736 : tP I P675674 F675723 p675470 qo675474 q675467 q675668 xt675484 := tP_pa tp675716 he675711 (Or.inr rfl) n675725
    have tp675738 : tP I P675674 F675723 p675470 qo675474 q675668 q675466 xt675484 := tP_pa tp675718 he675711 (Or.inl rfl) n675725
    have tp675739 : tP I P675674 F675723 p675470 qo675474 q675623 q675668 xt675484 := tP_pa tp675719 he675711 (Or.inr rfl) n675725
    have tp675741 : tP I P675674 F675723 p675470 qo675474 q675668 q675623 xt675484 := tP_pa tp675721 he675711 (Or.inl rfl) n675725
    have tp675742 : tP I P675674 F675723 p675470 qo675474 q675467 q675668 xt675484 := tP_pa tp675722 he675711 (Or.inr rfl) n675725
    refine G_aload_n 0 dr_cX14_goal_59 rfl ?_
    refine G_iconst 3 dr_cX14_goal_60 (by decide +kernel) ?_
    refine Gw_callV (As := [.int 3]) (gV_ok D I) (cp_674694_Reader_want l hl0 D I P675674 F675723 q675464 q675465 3 p675468 p675469 p675470 p675471 p675472 p675473 qo675474 p675475 p675476 p675477 q675668 q675623 p675478 f675479 xt675484 hm675682 hm675683 he675727 he675728 (gB_w (gBl (show Int32.toInt 3 = 3 by decide)) (by decide) (by decide)) bp675468 bp675469 bp675470 bp675471 bp675473 bp675475 bp675476 bp675477 bp675478 bf675479 (by omega) hm675686 hm675680 tp675739 x675487) dr_cX14_goal_61 ⟨wr_9_93, wr_1_32, wr_9_96, by decide, rfl, (Nat.le_of_ble_eq_true rfl), (Nat.le_of_ble_eq_true rfl)⟩ wr_9_95 wr_p_80 hm675682 he675727 rfl (show 2 + ((16 * (p675468.toInt - p675469.toInt)).toNat + 1) ≤ ((16 * (p675468.toInt - p675469.toInt)).toNat + 3) by first | omega | decide) (show z675577.toInt.toNat + z675662.toInt.toNat + ((160 * (p675468.toInt - p675469.toInt)).toNat + 7) ≤ ((160 * (p675468.toInt - p675469.toInt)).toNat + 4 * n675483 + 7) by first | omega | decide) (Nat.le_of_ble_eq_true rfl) (fun r675746 w675747 dc675743 ds675744 hp675745 => ?_) (fun _ qx675759 _ dc675757 ds675758 hx => by obtain ⟨P675755, F675756, rfl, rfl, hsb675748, hfr675749, hq675750, hqn675751, hwr675752, hdc675753, hds675754, ht675760⟩ := hx; exact GT_outA rfl (show 2 + dc675757 ≤ ((16 * (p675468.toInt - p675469.toInt)).toNat + 3) by omega) (show z675577.toInt.toNat + z675662.toInt.toNat + ds675758 ≤ ((160 * (p675468.toInt - p675469.toInt)).toNat + 4 * n675483 + 7) by omega) ⟨P675755, F675756, rfl, rfl, (rSub_tr hsb675688 hsb675748), (rFr_v (show rFr [q675464] P675462 F675463 F675756 from rFr_call hsb675688 hfr675733 hfr675749 (fun b hb hn => ⟨(nm_c (fun e => hn (e ▸ List.mem_cons_self)) nm_n), nm_n⟩)) (fun b hn => (nm_c (fun e => hn (e ▸ (List.mem_cons_of_mem _ List.mem_cons_self))) nm_n))), hq675750, (fun z => hqn675751 (hsb675688 _ z)), hwr675752, (by omega), (by omega), (fun R c1 c2 => c2 z675497 z675577 f675624 z675662 f675669 ez675497 r675576 ez675577 ht675628 ez675662 ht675673 ht675760)⟩)
    obtain ⟨P675775, F675776, o675761, o675762, o675763, o675764, q675765, xt675774, rfl, rfl, hsb675777, hfr675778, he675779, he675780, hdc, hds, bo675761, bo675762, bo675763, x675766, x675767, x675768, x675769, x675770, x675771, x675772, ht675773⟩ := hp675745
    have hm675781 : q675464 ∈ P675775 := hsb675777 q675464 hm675682
    have hm675782 : q675465 ∈ P675775 := hsb675777 q675465 hm675683
    have hm675783 : q675466 ∈ P675775 := hsb675777 q675466 hm675684
    have hm675784 : q675467 ∈ P675775 := hsb675777 q675467 hm675685
    have hm675785 : q675623 ∈ P675775 := hsb675777 q675623 hm675686
    have hm675786 : q675668 ∈ P675775 := hsb675777 q675668 hm675680
    have hsb675787 : rSub P675462 P675775 := rSub_tr hsb675688 hsb675777
    have he675788 : F675776 q675467 = .inl (I .int, n675483, .inl f675482) := (hfr675778 q675467 hm675685 (nm_c (rn_ao he675729 he675727) nm_n)).trans he675729
    have he675789 : F675776 q675623 = .inl (I .int, z675577.toInt.toNat, .inl f675624) := (hfr675778 q675623 hm675686 (nm_c (fun h => hq675641 (h ▸ hmq675464)) nm_n)).trans he675730
    have he675790 : F675776 q675466 = .inl (I .int, n675481, .inl f675480) := (hfr675778 q675466 hm675684 (nm_c (rn_ao he675731 he675727) nm_n)).trans he675731
    have he675791 : F675776 q675668 = .inl (I .int, z675662.toInt.toNat, .inl f675726) := (hfr675778 q675668 hm675680 (nm_c (fun h => hq675687 (h ▸ hmq675464)) nm_n)).trans he675732
    have hfr675792 : rFr [q675464] P675462 F675463 F675776 := rFr_call hsb675688 hfr675733 hfr675778 (fun b hb hn => ⟨(nm_c (fun e => hn (e ▸ List.mem_cons_self)) nm_n), (nm_c (fun e => hn (e ▸ List.mem_cons_self)) nm_n)⟩)
    have bo675764 := gB_any o675764
    rw [show Int32.toInt 3 = 3 from by decide] at x675772
    change G _ _ _ _ _ _ _ (.int p675472 :: _) _ _ _
    refine G_widen (cs' := 2 + ((16 * (o675761.toInt - p675469.toInt)).toNat)) (sl' := z675577.toInt.toNat + z675662.toInt.toNat + ((160 * (o675761.toInt - p675469.toInt)).toNat)) (by omega) (by omega) ?_
    refine G_istore_n (L' := [(1, .int p675472), (0, .ref q675464)]) dr_cX14_goal_64 (Nat.le_of_ble_eq_true rfl) rfl ?_
    refine G_aload_n 1 dr_cX14_goal_65 rfl ?_
    refine Gp_get 12 hm675781 he675779 dr_cX14_goal_66 (gk_X14 D I) (Nat.le_of_ble_eq_true rfl) wr_9_50 rfl ?_
    refine G_aload_n 1 dr_cX14_goal_69 rfl ?_
    refine Gp_get 13 hm675781 he675779 dr_cX14_goal_70 (gk_X14 D I) (Nat.le_of_ble_eq_true rfl) wr_9_51 rfl ?_
    refine G_iload_n 0 dr_cX14_goal_73 rfl ?_
    refine Gp_iast 0 hm675785 he675789 dr_cX14_goal_74 rfl (gB_inr (by omega) (by omega)) (fun F675793 e675794 n675795 => ?_)
    obtain ⟨f675796, hf675796⟩ : ∃ z, z = upd f675624 p675478.toNatClampNeg p675472 := ⟨_, rfl⟩
    rw [← hf675796] at e675794
    have he675797 : F675793 q675467 = .inl (I .int, n675483, .inl f675482) := (n675795 q675467 (fun h => hq675641 (h ▸ hmq675467))).trans he675788
    have he675798 : F675793 q675466 = .inl (I .int, n675481, .inl f675480) := (n675795 q675466 (fun h => hq675641 (h ▸ hmq675466))).trans he675790
    have he675799 : F675793 q675668 = .inl (I .int, z675662.toInt.toNat, .inl f675726) := (n675795 q675668 (Ne.symm hne675703)).trans he675791
    have he675800 : F675793 q675464 = .inr (19, [.ref q675465, .int p675468, .int o675761, .int o675762, .int o675763, .int o675764, .int p675470, .ref q675765, .int p675475, .int p675476, .int p675477, .ref q675668, .ref q675623, .int p675478]) := (n675795 q675464 (fun h => hq675641 (h ▸ hmq675464))).trans he675779
    have he675801 : F675793 q675465 = .inl (I .byte, 8192, .inl f675479) := (n675795 q675465 (fun h => hq675641 (h ▸ hmq675465))).trans he675780
    have he675802 : F675793 q675623 = .inl (I .int, z675577.toInt.toNat, .inl f675796) := e675794
    have hfr675803 : rFr [q675464] P675462 F675463 F675793 := rFr_newp hq675641 hfr675792 n675795
    have tp675804 : tP I P675775 F675793 o675762 q675765 q675623 q675668 xt675774 := tP_pa x675769 he675789 (Or.inl rfl) n675795
    refine G_aload_n 1 dr_cX14_goal_75 rfl ?_
    refine G_dup dr_cX14_goal_76 rfl ?_
    refine Gp_get 13 hm675781 he675800 dr_cX14_goal_77 (gk_X14 D I) (Nat.le_of_ble_eq_true rfl) wr_9_51 rfl ?_
    refine G_iconst 1 dr_cX14_goal_80 (by decide +kernel) ?_
    refine G_iadd dr_cX14_goal_81 (G_nam fun z675805 hz675805 => ?_)
    have ez675805 : z675805.toInt = p675478.toInt + 1 := by rw [gI_add hz675805 bp675478 (gBl (show Int32.toInt 1 = 1 by decide)) (by decide) (by decide), show Int32.toInt 1 = 1 from by decide]
    have bz675805 : gB z675805 1 1000001 := gB_add (gI_add hz675805 bp675478 (gBl (show Int32.toInt 1 = 1 by decide)) (by decide) (by decide)) bp675478 (gBl (show Int32.toInt 1 = 1 by decide)) (by decide) (by decide)
    refine Gp_put 13 hm675781 he675800 dr_cX14_goal_82 (gk_X14 D I) (Nat.le_of_ble_eq_true rfl) wr_9_51 rfl rfl rfl (Nat.le_of_ble_eq_true rfl) (fun F675806 e675807 n675808 => ?_)
    have he675809 : F675806 q675467 = .inl (I .int, n675483, .inl f675482) := (n675808 q675467 (rn_ao he675797 he675800)).trans he675797
    have he675810 : F675806 q675623 = .inl (I .int, z675577.toInt.toNat, .inl f675796) := (n675808 q675623 (fun h => hq675641 (h ▸ hmq675464))).trans he675802
    have he675811 : F675806 q675466 = .inl (I .int, n675481, .inl f675480) := (n675808 q675466 (rn_ao he675798 he675800)).trans he675798
    have he675812 : F675806 q675668 = .inl (I .int, z675662.toInt.toNat, .inl f675726) := (n675808 q675668 (fun h => hq675687 (h ▸ hmq675464))).trans he675799
    have he675813 : F675806 q675465 = .inl (I .byte, 8192, .inl f675479) := (n675808 q675465 (rn_ao he675801 he675800)).trans he675801
    have he675814 : F675806 q675464 = .inr (19, [.ref q675465, .int p675468, .int o675761, .int o675762, .int o675763, .int o675764, .int p675470, .ref q675765, .int p675475, .int p675476, .int p675477, .ref q675668, .ref q675623, .int z675805]) := e675807
    have hfr675815 : rFr [q675464] P675462 F675463 F675806 := rFr_put' List.mem_cons_self hfr675803 n675808
    have tp675816 : tP I P675775 F675806 o675762 q675765 q675623 q675668 xt675774 := tP_put tp675804 he675800 (by decide) n675808
    refine G_iload_n 0 dr_cX14_goal_85 rfl ?_
    exact G_iretA dr_cX14_goal_86 rfl (show 2 + ((16 * (o675761.toInt - p675469.toInt)).toNat) ≤ ((16 * (p675468.toInt - p675469.toInt)).toNat + 3) by omega) (show z675577.toInt.toNat + z675662.toInt.toNat + ((160 * (o675761.toInt - p675469.toInt)).toNat) ≤ ((160 * (p675468.toInt - p675469.toInt)).toNat + 4 * n675483 + 7) by omega) ⟨P675775, F675806, o675761, o675762, o675763, o675764, q675765, z675805, q675668, z675662.toInt.toNat, f675726, q675623, z675577.toInt.toNat, f675796, xt675774, rfl, rfl, hsb675787, (rFr_v hfr675815 (fun b hn => (nm_c (fun e => hn (e ▸ (List.mem_cons_of_mem _ (List.mem_cons_of_mem _ List.mem_cons_self)))) nm_n))), he675812, he675810, he675814, he675813, hm675786, (Or.inr hq675687), hm675785, (Or.inr hq675641), (by omega), (by omega), bo675761, bo675762, bo675763, ⟨by omega, by omega⟩, (by omega), x675767, (by omega), tp675816, x675770, x675771, (by omega), (by omega), hne675703, (glC_u hf675796 (glC_tr glC_rf x675626 (show p675478.toInt ≤ p675478.toInt from Int.le_refl _) (by omega)) (by omega)), (glL_u hf675796), (glP_u hf675726 (glP_b x675672 x675493) (by first | assumption | exact ⟨by omega, by omega⟩)), (by omega), (by omega), (by omega), (by omega), (by omega), (by omega), (fun R c1 c2 => c2 z675497 z675577 f675624 z675662 f675669 f675726 xt675774 o675761 o675762 o675763 o675764 f675796 z675805 ez675497 r675576 ez675577 ht675628 ez675662 ht675673 hf675726 bo675761 bo675762 bo675763 ht675773 hf675796 ez675805)⟩
/- tr_RReader_row: a.0...at, a.0...kind, a.0...place, a.0...value, a.0...before, a.1...op, a.1...t, a.1...a, a.1...b, a.1...regA, a.1...regB -/
def tr_RReader_row (a0_n : Int32) (a0_at : Int32) (a0_kind : Int32) (a0_value : Int32) (a1_t : Int32) (a1_a : Int32) (a1_b : Int32) (a1_regA : Int32) (a1_regB : Int32) (a0_t_v : Nat → Int32) (xt : gTx) (o1 : Int32) (o2 : Int32) (o3 : Int32) (o4 : Int32) (o5 : Int32) (o6 : Int32) (o7 : Int32) (o8 : Int32) (o9 : Int32) (o10 : Int32) (o11 : Int32) (o12 : gTx) : Prop := ∀ R : (Int32) → (Int32) → (Int32) → (Int32) → (Int32) → (Int32) → (Int32) → (Int32) → (Int32) → (Int32) → (Int32) → (gTx) → Prop,
  (∀ (x1 : Int32) (x2 : gTx) (x3 : Int32) (x4 : Int32) (x5 : Int32) (x6 : Int32) (x7 : gTx) (x8 : Int32) (x9 : Int32) (x10 : Int32) (x11 : Int32) (x12 : Int32) (x13 : gTx) (x14 : Int32) (x15 : Int32) (x16 : Int32) (x17 : Int32) (x18 : Int32) (x19 : Int32) (x20 : Int32) (x21 : Int32), gB x1 0 1 → tr_RReader_is sb_39 a0_kind xt x1 → x1.toInt = 0 → gB x3 0 8192 → gB x4 0 6 → gB x5 0 8192 → tr_RReader_want2 (2 : Int32) a0_n a0_at a0_kind a0_value a0_t_v x3 x4 x5 x6 x2 → gB x8 0 8192 → gB x9 0 6 → gB x10 0 8192 → tr_RReader_want sb_40 a0_n x3 x4 x6 a0_t_v x2 x8 x9 x10 x11 x7 → gB x12 0 1 → tr_RReader_is sb_41 x9 x7 x12 → x12.toInt = 0 → gB x14 0 8192 → gB x15 0 6 → gB x16 0 8192 → gB x20 0 1 → gB x21 0 1 → tr_RReader_operand (0 : Int32) a0_n x8 x9 x11 a1_a a1_b a1_regA a1_regB a0_t_v x14 x15 x16 x17 x18 x19 x20 x21 x13 → x15.toInt ≠ 5 → R x14 x15 x16 x17 x9 (0 : Int32) a0_value x18 x19 x20 x21 x13) →
  (∀ (x1 : Int32) (x2 : gTx) (x3 : Int32) (x4 : Int32) (x5 : Int32) (x6 : Int32) (x7 : gTx) (x8 : Int32) (x9 : Int32) (x10 : Int32) (x11 : Int32) (x12 : Int32) (x13 : gTx) (x14 : Int32) (x15 : Int32) (x16 : Int32) (x17 : Int32) (x18 : Int32) (x19 : Int32) (x20 : Int32) (x21 : Int32) (x22 : Int32) (x23 : gTx) (x24 : Int32) (x25 : Int32) (x26 : Int32) (x27 : Int32) (x28 : gTx) (x29 : Int32) (x30 : Int32) (x31 : Int32) (x32 : Int32) (x33 : Int32) (x34 : Int32) (x35 : Int32) (x36 : Int32), gB x1 0 1 → tr_RReader_is sb_39 a0_kind xt x1 → x1.toInt = 0 → gB x3 0 8192 → gB x4 0 6 → gB x5 0 8192 → tr_RReader_want2 (2 : Int32) a0_n a0_at a0_kind a0_value a0_t_v x3 x4 x5 x6 x2 → gB x8 0 8192 → gB x9 0 6 → gB x10 0 8192 → tr_RReader_want sb_40 a0_n x3 x4 x6 a0_t_v x2 x8 x9 x10 x11 x7 → gB x12 0 1 → tr_RReader_is sb_41 x9 x7 x12 → x12.toInt = 0 → gB x14 0 8192 → gB x15 0 6 → gB x16 0 8192 → gB x20 0 1 → gB x21 0 1 → tr_RReader_operand (0 : Int32) a0_n x8 x9 x11 a1_a a1_b a1_regA a1_regB a0_t_v x14 x15 x16 x17 x18 x19 x20 x21 x13 → x15.toInt = 5 → gB x22 0 14 → tr_RModel_operation x13.2 x13.1 x22 → x22.toInt ≠ 0 → gB x24 0 8192 → gB x25 0 6 → gB x26 0 8192 → tr_RReader_next a0_n x14 x15 x17 a0_t_v x24 x25 x26 x27 x23 → gB x29 0 8192 → gB x30 0 6 → gB x31 0 8192 → gB x35 0 1 → gB x36 0 1 → tr_RReader_operand (1 : Int32) a0_n x24 x25 x27 x18 x19 x20 x21 a0_t_v x29 x30 x31 x32 x33 x34 x35 x36 x28 → R x29 x30 x31 x32 x25 x22 a0_value x33 x34 x35 x36 x28) →
  (∀ (x1 : Int32) (x2 : gTx) (x3 : Int32) (x4 : Int32) (x5 : Int32) (x6 : Int32) (x7 : gTx) (x8 : Int32) (x9 : Int32) (x10 : Int32) (x11 : Int32) (x12 : Int32) (x13 : gTx) (x14 : Int32) (x15 : Int32) (x16 : Int32) (x17 : Int32) (x18 : Int32) (x19 : Int32) (x20 : Int32) (x21 : Int32) (x22 : Int32), gB x1 0 1 → tr_RReader_is sb_39 a0_kind xt x1 → x1.toInt = 0 → gB x3 0 8192 → gB x4 0 6 → gB x5 0 8192 → tr_RReader_want2 (2 : Int32) a0_n a0_at a0_kind a0_value a0_t_v x3 x4 x5 x6 x2 → gB x8 0 8192 → gB x9 0 6 → gB x10 0 8192 → tr_RReader_want sb_40 a0_n x3 x4 x6 a0_t_v x2 x8 x9 x10 x11 x7 → gB x12 0 1 → tr_RReader_is sb_41 x9 x7 x12 → x12.toInt = 0 → gB x14 0 8192 → gB x15 0 6 → gB x16 0 8192 → gB x20 0 1 → gB x21 0 1 → tr_RReader_operand (0 : Int32) a0_n x8 x9 x11 a1_a a1_b a1_regA a1_regB a0_t_v x14 x15 x16 x17 x18 x19 x20 x21 x13 → x15.toInt = 5 → gB x22 0 14 → tr_RModel_operation x13.2 x13.1 x22 → x22.toInt = 0 → R x14 x15 x16 x17 x9 x22 a0_value x18 x19 x20 x21 (x13.1, x13.2)) →
  (∀ (x1 : Int32) (x2 : gTx) (x3 : Int32) (x4 : Int32) (x5 : Int32) (x6 : Int32) (x7 : gTx) (x8 : Int32) (x9 : Int32) (x10 : Int32) (x11 : Int32) (x12 : Int32) (x13 : gTx) (x14 : Int32) (x15 : Int32) (x16 : Int32) (x17 : Int32), gB x1 0 1 → tr_RReader_is sb_39 a0_kind xt x1 → x1.toInt = 0 → gB x3 0 8192 → gB x4 0 6 → gB x5 0 8192 → tr_RReader_want2 (2 : Int32) a0_n a0_at a0_kind a0_value a0_t_v x3 x4 x5 x6 x2 → gB x8 0 8192 → gB x9 0 6 → gB x10 0 8192 → tr_RReader_want sb_40 a0_n x3 x4 x6 a0_t_v x2 x8 x9 x10 x11 x7 → gB x12 0 1 → tr_RReader_is sb_41 x9 x7 x12 → x12.toInt ≠ 0 → gB x14 0 8192 → gB x15 0 6 → gB x16 0 8192 → tr_RReader_next a0_n x8 x9 x11 a0_t_v x14 x15 x16 x17 x13 → R x14 x15 x16 x17 x9 (20 : Int32) a0_value a1_a a1_b a1_regA a1_regB x13) →
  (∀ (x1 : Int32) (x2 : gTx) (x3 : Int32) (x4 : Int32) (x5 : Int32) (x6 : Int32) (x7 : gTx) (x8 : Int32) (x9 : Int32) (x10 : Int32) (x11 : Int32) (x12 : Int32) (x13 : Int32) (x14 : Int32) (x15 : Int32), gB x1 0 1 → tr_RReader_is sb_39 a0_kind xt x1 → x1.toInt ≠ 0 → gB x3 0 8192 → gB x4 0 6 → gB x5 0 8192 → tr_RReader_next a0_n a0_at a0_kind a0_value a0_t_v x3 x4 x5 x6 x2 → gB x8 0 8192 → gB x9 0 6 → gB x10 0 8192 → gB x14 0 1 → gB x15 0 1 → tr_RReader_operand (0 : Int32) a0_n x3 x4 x6 a1_a a1_b a1_regA a1_regB a0_t_v x8 x9 x10 x11 x12 x13 x14 x15 x7 → R x8 x9 x10 x11 x4 (22 : Int32) a1_t x12 x13 x14 x15 x7) →
  R o1 o2 o3 o4 o5 o6 o7 o8 o9 o10 o11 o12
/- tx_RReader_row: throws -/
def tx_RReader_row (a0_n : Int32) (a0_at : Int32) (a0_kind : Int32) (a0_value : Int32) (a1_a : Int32) (a1_b : Int32) (a1_regA : Int32) (a1_regB : Int32) (a0_t_v : Nat → Int32) (xt : gTx) : Prop := ∀ R : Prop,
  (∀ (x1 : Int32), gB x1 0 1 → tr_RReader_is sb_39 a0_kind xt x1 → x1.toInt = 0 → tx_RReader_want2 (2 : Int32) a0_kind → R) →
  (∀ (x1 : Int32) (x2 : gTx) (x3 : Int32) (x4 : Int32) (x5 : Int32) (x6 : Int32), gB x1 0 1 → tr_RReader_is sb_39 a0_kind xt x1 → x1.toInt = 0 → gB x3 0 8192 → gB x4 0 6 → gB x5 0 8192 → tr_RReader_want2 (2 : Int32) a0_n a0_at a0_kind a0_value a0_t_v x3 x4 x5 x6 x2 → tx_RReader_want sb_40 x4 x2 → R) →
  (∀ (x1 : Int32) (x2 : gTx) (x3 : Int32) (x4 : Int32) (x5 : Int32) (x6 : Int32) (x7 : gTx) (x8 : Int32) (x9 : Int32) (x10 : Int32) (x11 : Int32) (x12 : Int32), gB x1 0 1 → tr_RReader_is sb_39 a0_kind xt x1 → x1.toInt = 0 → gB x3 0 8192 → gB x4 0 6 → gB x5 0 8192 → tr_RReader_want2 (2 : Int32) a0_n a0_at a0_kind a0_value a0_t_v x3 x4 x5 x6 x2 → gB x8 0 8192 → gB x9 0 6 → gB x10 0 8192 → tr_RReader_want sb_40 a0_n x3 x4 x6 a0_t_v x2 x8 x9 x10 x11 x7 → gB x12 0 1 → tr_RReader_is sb_41 x9 x7 x12 → x12.toInt = 0 → tx_RReader_operand x9 → R) →
  (∀ (x1 : Int32) (x2 : gTx) (x3 : Int32) (x4 : Int32) (x5 : Int32) (x6 : Int32) (x7 : gTx) (x8 : Int32) (x9 : Int32) (x10 : Int32) (x11 : Int32) (x12 : Int32) (x13 : gTx) (x14 : Int32) (x15 : Int32) (x16 : Int32) (x17 : Int32) (x18 : Int32) (x19 : Int32) (x20 : Int32) (x21 : Int32) (x22 : Int32) (x23 : gTx) (x24 : Int32) (x25 : Int32) (x26 : Int32) (x27 : Int32), gB x1 0 1 → tr_RReader_is sb_39 a0_kind xt x1 → x1.toInt = 0 → gB x3 0 8192 → gB x4 0 6 → gB x5 0 8192 → tr_RReader_want2 (2 : Int32) a0_n a0_at a0_kind a0_value a0_t_v x3 x4 x5 x6 x2 → gB x8 0 8192 → gB x9 0 6 → gB x10 0 8192 → tr_RReader_want sb_40 a0_n x3 x4 x6 a0_t_v x2 x8 x9 x10 x11 x7 → gB x12 0 1 → tr_RReader_is sb_41 x9 x7 x12 → x12.toInt = 0 → gB x14 0 8192 → gB x15 0 6 → gB x16 0 8192 → gB x20 0 1 → gB x21 0 1 → tr_RReader_operand (0 : Int32) a0_n x8 x9 x11 a1_a a1_b a1_regA a1_regB a0_t_v x14 x15 x16 x17 x18 x19 x20 x21 x13 → x15.toInt = 5 → gB x22 0 14 → tr_RModel_operation x13.2 x13.1 x22 → x22.toInt ≠ 0 → gB x24 0 8192 → gB x25 0 6 → gB x26 0 8192 → tr_RReader_next a0_n x14 x15 x17 a0_t_v x24 x25 x26 x27 x23 → tx_RReader_operand x25 → R) →
  (∀ (x1 : Int32) (x2 : gTx) (x3 : Int32) (x4 : Int32) (x5 : Int32) (x6 : Int32), gB x1 0 1 → tr_RReader_is sb_39 a0_kind xt x1 → x1.toInt ≠ 0 → gB x3 0 8192 → gB x4 0 6 → gB x5 0 8192 → tr_RReader_next a0_n a0_at a0_kind a0_value a0_t_v x3 x4 x5 x6 x2 → tx_RReader_operand x4 → R) →
  R
abbrev ky_675869_Reader_row : gKey := (cX14_row, 2, "SpillForgeModel$Reader", none, [], "row", fun _ _ => True)
def pp_675869_Reader_row (D : va_G) (I : FieldType → ClassId) (P675834 : List Nat) (F675835 : Nat → va_E) (q675836 : Nat) (q675837 : Nat) (q675838 : Nat) (p675839 : Int32) (p675840 : Int32) (p675841 : Int32) (p675842 : Int32) (p675843 : Int32) (p675844 : Int32) (qo675845 : Nat) (p675846 : Int32) (p675847 : Int32) (p675848 : Int32) (qo675849 : Nat) (qo675850 : Nat) (p675851 : Int32) (p675852 : Int32) (p675853 : Int32) (p675854 : Int32) (p675855 : Int32) (p675856 : Int32) (p675857 : Int32) (p675858 : Int32) (f675859 : Nat → Int32) (xt675860 : gTx) : Option Value → va_W → Nat → Nat → Prop := fun r w dc ds => ∃ (P676350 : List Nat) (F676351 : Nat → va_E) (o676338 : Int32) (o676339 : Int32) (o676340 : Int32) (o676341 : Int32) (o676342 : Int32) (q676343 : Nat) (o676344 : Int32) (o676345 : Int32) (o676346 : Int32) (o676347 : Int32) (o676348 : Int32) (o676349 : Int32) (xt676352 : gTx), r = none ∧ w = va_pl P676350 F676351 ∧ rSub P675834 P676350 ∧ rFr [q675837, q675836] P675834 F675835 F676351 ∧ F676351 q675837 = .inr (20, [.int o676344, .int o676345, .int o676346, .int o676347, .int p675856, .int o676348, .int o676349]) ∧ F676351 q675836 = .inr (19, [.ref q675838, .int p675839, .int o676338, .int o676339, .int o676340, .int o676341, .int o676342, .ref q676343, .int p675846, .int p675847, .int p675848, .ref qo675849, .ref qo675850, .int p675851]) ∧ F676351 q675838 = .inl (I .byte, 8192, .inl f675859) ∧ dc ≤ (16 * (o676338.toInt - p675840.toInt)).toNat + 8 ∧ ds ≤ (160 * (o676338.toInt - p675840.toInt)).toNat + 64 ∧ gB o676338 0 8192 ∧ gB o676339 0 6 ∧ gB o676340 0 8192 ∧ gB o676342 0 6 ∧ gB o676344 0 22 ∧ gB o676345 0 1999 ∧ gB o676348 0 1 ∧ gB o676349 0 1 ∧ p675840.toInt ≤ o676338.toInt ∧ prP o676339 p675840 o676338 ∧ o676338.toInt ≤ p675839.toInt ∧ tP I P676350 F676351 o676339 q676343 qo675850 qo675849 xt676352 ∧ vP o676339 o676341 ∧ rwP o676348 o676346 ∧ rwP o676349 o676347 ∧ opP o676344 ∧ opQ o676344 ∧ nzK p675841 ∧ rwQ p675840 o676338 o676339 ∧ tr_RReader_row p675839 p675840 p675841 p675843 p675853 p675854 p675855 p675857 p675858 f675859 xt675860 o676338 o676339 o676340 o676341 o676342 o676344 o676345 o676346 o676347 o676348 o676349 xt676352
def xp_675869_Reader_row (D : va_G) (I : FieldType → ClassId) (P675834 : List Nat) (F675835 : Nat → va_E) (q675836 : Nat) (q675837 : Nat) (q675838 : Nat) (p675839 : Int32) (p675840 : Int32) (p675841 : Int32) (p675842 : Int32) (p675843 : Int32) (p675844 : Int32) (qo675845 : Nat) (p675846 : Int32) (p675847 : Int32) (p675848 : Int32) (qo675849 : Nat) (qo675850 : Nat) (p675851 : Int32) (p675852 : Int32) (p675853 : Int32) (p675854 : Int32) (p675855 : Int32) (p675856 : Int32) (p675857 : Int32) (p675858 : Int32) (f675859 : Nat → Int32) (xt675860 : gTx) : String → Nat → va_W → Nat → Nat → Prop := fun E q w dc ds => ∃ (P676354 : List Nat) (F676353 : Nat → va_E), E = "SpillForgeModel$Wrong" ∧ w = va_pl P676354 F676353 ∧ rSub P675834 P676354 ∧ rFr [q675837, q675836] P675834 F675835 F676353 ∧ q ∈ P676354 ∧ q ∉ P675834 ∧ wrF F676353 q ∧ dc ≤ (16 * (p675839.toInt - p675840.toInt)).toNat + 9 ∧ ds ≤ (160 * (p675839.toInt - p675840.toInt)).toNat + 71 ∧ rkR (F676353 q675837) ∧ tx_RReader_row p675839 p675840 p675841 p675843 p675854 p675855 p675857 p675858 f675859 xt675860
set_option maxRecDepth 100000 in
set_option maxHeartbeats 4000000 in
theorem cp_675869_Reader_row (l : Launch) (hl0 : l.stackTraces = false) (D : va_G) (I : FieldType → ClassId) (P675834 : List Nat) (F675835 : Nat → va_E) (q675836 : Nat) (q675837 : Nat) (q675838 : Nat) (p675839 : Int32) (p675840 : Int32) (p675841 : Int32) (p675842 : Int32) (p675843 : Int32) (p675844 : Int32) (qo675845 : Nat) (p675846 : Int32) (p675847 : Int32) (p675848 : Int32) (qo675849 : Nat) (qo675850 : Nat) (p675851 : Int32) (p675852 : Int32) (p675853 : Int32) (p675854 : Int32) (p675855 : Int32) (p675856 : Int32) (p675857 : Int32) (p675858 : Int32) (f675859 : Nat → Int32) (xt675860 : gTx) (hmq675836 : q675836 ∈ P675834) (hmq675837 : q675837 ∈ P675834) (hmq675838 : q675838 ∈ P675834) (heq675836 : F675835 q675836 = .inr (19, [.ref q675838, .int p675839, .int p675840, .int p675841, .int p675842, .int p675843, .int p675844, .ref qo675845, .int p675846, .int p675847, .int p675848, .ref qo675849, .ref qo675850, .int p675851])) (heq675837 : F675835 q675837 = .inr (20, [.int p675852, .int p675853, .int p675854, .int p675855, .int p675856, .int p675857, .int p675858])) (heq675838 : F675835 q675838 = .inl (I .byte, 8192, .inl f675859)) (bp675839 : gB p675839 0 8192) (bp675840 : gB p675840 0 8192) (bp675841 : gB p675841 0 6) (bp675842 : gB p675842 0 8192) (bp675844 : gB p675844 0 6) (bp675846 : gB p675846 (-1) 8192) (bp675847 : gB p675847 0 4) (bp675848 : gB p675848 0 1000000) (bp675851 : gB p675851 0 1000000) (bp675852 : gB p675852 0 32) (bp675853 : gB p675853 0 1999) (bp675856 : gB p675856 0 1999) (bp675857 : gB p675857 0 1) (bp675858 : gB p675858 0 1) (bf675859 : gF f675859 (-128) 127) (x675861 : p675840.toInt ≤ p675839.toInt) (x675862 : qo675850 ∈ P675834) (x675863 : qo675849 ∈ P675834) (x675864 : tP I P675834 F675835 p675841 qo675845 qo675850 qo675849 xt675860) (x675865 : vP p675841 p675843) (x675866 : rwP p675857 p675854) (x675867 : rwP p675858 p675855) (x675868 : opP p675852) : CtA (gV D I) l yX14_row cX14_row 2 none 9 200 ((16 * (p675839.toInt - p675840.toInt)).toNat + 9) ((160 * (p675839.toInt - p675840.toInt)).toNat + 71) [.ref q675836, .ref q675837] (va_pl P675834 F675835) (pp_675869_Reader_row D I P675834 F675835 q675836 q675837 q675838 p675839 p675840 p675841 p675842 p675843 p675844 qo675845 p675846 p675847 p675848 qo675849 qo675850 p675851 p675852 p675853 p675854 p675855 p675856 p675857 p675858 f675859 xt675860) (xp_675869_Reader_row D I P675834 F675835 q675836 q675837 q675838 p675839 p675840 p675841 p675842 p675843 p675844 qo675845 p675846 p675847 p675848 qo675849 qo675850 p675851 p675852 p675853 p675854 p675855 p675856 p675857 p675858 f675859 xt675860) := by
  refine CtA_of hl0 (by decide) (Nat.le_of_ble_eq_true rfl) ?_
  have bp675843 := gB_any p675843
  have bp675854 := gB_any p675854
  have bp675855 := gB_any p675855
  refine G_aload_n 0 dr_cX14_row_0 rfl ?_
  refine G_ldcK (a := D.2 1000 39) dr_cX14_row_1 (fun _ _ _ h => gx_vk 39 rfl rfl h) ?_
  have hl39_675869 : (sb_39.length : Int) = 4 := rfl
  refine Gw_callV (As := [.ref (D.2 1000 39)]) (gV_ok D I) (cp_674517_Reader_is l hl0 D I P675834 F675835 q675836 q675838 (D.2 1000 39) (D.2 1001 39) sb_39 p675839 p675840 p675841 p675842 p675843 p675844 qo675845 p675846 p675847 p675848 qo675849 qo675850 p675851 f675859 xt675860 hmq675836 hmq675838 heq675836 heq675838 (gx_sc 39 rfl rfl) (by omega) (by decide +kernel) bp675839 bp675840 bp675841 bp675842 bp675844 bp675846 bp675847 bp675848 bp675851 bf675859 x675864) dr_cX14_row_3 ⟨wr_9_141, wr_1_32, wr_9_144, by decide, rfl, (Nat.le_of_ble_eq_true rfl), (Nat.le_of_ble_eq_true rfl)⟩ wr_9_143 wr_p_84 hmq675836 heq675836 rfl (show 0 + 0 ≤ ((16 * (p675839.toInt - p675840.toInt)).toNat + 9) by first | omega | decide) (show 0 + 0 ≤ ((160 * (p675839.toInt - p675840.toInt)).toNat + 71) by first | omega | decide) (Nat.le_of_ble_eq_true rfl) (fun r675874 w675875 dc675871 ds675872 hp675873 => ?_) (fun _ _ _ _ _ z => z.elim)
  obtain ⟨o675876, rfl, rfl, hdc, hds, bo675876, x675877, ht675878⟩ := hp675873
  change G _ _ _ _ _ _ _ (.int o675876 :: _) _ _ _
  refine G_widen (cs' := 0) (sl' := 0) (by omega) (by omega) ?_
  refine G_if_eq 26 dr_cX14_row_6 (by decide +kernel) (fun hc675879 => ?_) (fun hc675879 => ?_)
  · have r675880 : o675876.toInt = 0 := gj_eq hc675879 (show Int32.toInt 0 = 0 by decide)
    have bo675876' : gB o675876 0 0 := ⟨by omega, by omega⟩
    refine G_aload_n 1 dr_cX14_row_26 rfl ?_
    refine G_aload_n 0 dr_cX14_row_27 rfl ?_
    refine G_iconst 2 dr_cX14_row_28 (by decide +kernel) ?_
    refine Gw_callV (As := [.int 2]) (gV_ok D I) (cp_674694_Reader_want l hl0 D I P675834 F675835 q675836 q675838 2 p675839 p675840 p675841 p675842 p675843 p675844 qo675845 p675846 p675847 p675848 qo675849 qo675850 p675851 f675859 xt675860 hmq675836 hmq675838 heq675836 heq675838 (gB_w (gBl (show Int32.toInt 2 = 2 by decide)) (by decide) (by decide)) bp675839 bp675840 bp675841 bp675842 bp675844 bp675846 bp675847 bp675848 bp675851 bf675859 (by omega) x675862 x675863 x675864 x675865) dr_cX14_row_29 ⟨wr_9_93, wr_1_32, wr_9_96, by decide, rfl, (Nat.le_of_ble_eq_true rfl), (Nat.le_of_ble_eq_true rfl)⟩ wr_9_95 wr_p_80 hmq675836 heq675836 rfl (show 0 + ((16 * (p675839.toInt - p675840.toInt)).toNat + 1) ≤ ((16 * (p675839.toInt - p675840.toInt)).toNat + 9) by first | omega | decide) (show 0 + ((160 * (p675839.toInt - p675840.toInt)).toNat + 7) ≤ ((160 * (p675839.toInt - p675840.toInt)).toNat + 71) by first | omega | decide) (Nat.le_of_ble_eq_true rfl) (fun r675884 w675885 dc675881 ds675882 hp675883 => ?_) (fun _ qx675897 _ dc675895 ds675896 hx => by obtain ⟨P675893, F675894, rfl, rfl, hsb675886, hfr675887, hq675888, hqn675889, hwr675890, hdc675891, hds675892, ht675898⟩ := hx; exact GT_outA rfl (show 0 + dc675895 ≤ ((16 * (p675839.toInt - p675840.toInt)).toNat + 9) by omega) (show 0 + ds675896 ≤ ((160 * (p675839.toInt - p675840.toInt)).toNat + 71) by omega) ⟨P675893, F675894, rfl, rfl, (rSub_tr (rSub_rf (P := P675834)) hsb675886), (rFr_v (show rFr [] P675834 F675835 F675894 from rFr_call (rSub_rf (P := P675834)) (rFr_rf (W := []) (P := P675834) (F := F675835)) hfr675887 (fun b hb hn => ⟨nm_n, nm_n⟩)) (fun b hn => nm_n)), hq675888, (fun z => hqn675889 ((rSub_rf (P := P675834)) _ z)), hwr675890, (by omega), (by omega), ⟨p675852, p675853, p675854, p675855, p675856, p675857, p675858, ((hfr675887 q675837 hmq675837 nm_n).trans heq675837), bp675852, bp675853, bp675856, bp675857, bp675858, x675868, x675866, x675867⟩, (fun R c1 c2 c3 c4 c5 => c1 o675876 bo675876 ht675878 r675880 ht675898)⟩)
    obtain ⟨P675913, F675914, o675899, o675900, o675901, o675902, q675903, xt675912, rfl, rfl, hsb675915, hfr675916, he675917, he675918, hdc, hds, bo675899, bo675900, bo675901, x675904, x675905, x675906, x675907, x675908, x675909, x675910, ht675911⟩ := hp675883
    have hm675919 : q675836 ∈ P675913 := hsb675915 q675836 hmq675836
    have hm675920 : q675837 ∈ P675913 := hsb675915 q675837 hmq675837
    have hm675921 : q675838 ∈ P675913 := hsb675915 q675838 hmq675838
    have hsb675922 : rSub P675834 P675913 := rSub_tr (rSub_rf (P := P675834)) hsb675915
    have he675923 : F675914 q675837 = .inr (20, [.int p675852, .int p675853, .int p675854, .int p675855, .int p675856, .int p675857, .int p675858]) := (hfr675916 q675837 hmq675837 (nm_c (rn_oo heq675837 heq675836 (by decide)) nm_n)).trans heq675837
    have hfr675924 : rFr [q675836] P675834 F675835 F675914 := rFr_call (rSub_rf (P := P675834)) (rFr_rf (W := []) (P := P675834) (F := F675835)) hfr675916 (fun b hb hn => ⟨nm_n, (nm_c (fun e => hn (e ▸ List.mem_cons_self)) nm_n)⟩)
    have bo675902 := gB_any o675902
    rw [show Int32.toInt 2 = 2 from by decide] at x675910
    change G _ _ _ _ _ _ _ (.int p675843 :: _) _ _ _
    refine G_widen (cs' := (16 * (o675899.toInt - p675840.toInt)).toNat) (sl' := (160 * (o675899.toInt - p675840.toInt)).toNat) (by omega) (by omega) ?_
    have bv675925 : gB p675843 0 99 := vP_g2 x675909
    have x675926 : p675840.toInt ≤ o675899.toInt := by omega
    have x675927 : p675840.toInt + 0 ≤ p675840.toInt := by omega
    have x675928 : p675840.toInt + 0 ≤ o675899.toInt := by omega
    have x675929 : prQ o675900 (p675840.toInt + 1) o675899 := prP_q x675905 x675927 (by omega)
    refine G_widen (cs' := (16 * (o675899.toInt - p675840.toInt) + 0 : Int).toNat) (sl' := (160 * (o675899.toInt - p675840.toInt) + 0 : Int).toNat) (by omega) (by omega) ?_
    refine Gp_put 1 hm675920 he675923 dr_cX14_row_32 (gk_X15 D I) (Nat.le_of_ble_eq_true rfl) wr_9_183 rfl rfl rfl (Nat.le_of_ble_eq_true rfl) (fun F675930 e675931 n675932 => ?_)
    have he675933 : F675930 q675836 = .inr (19, [.ref q675838, .int p675839, .int o675899, .int o675900, .int o675901, .int o675902, .int p675841, .ref q675903, .int p675846, .int p675847, .int p675848, .ref qo675849, .ref qo675850, .int p675851]) := (n675932 q675836 (rn_oo he675917 he675923 (by decide))).trans he675917
    have he675934 : F675930 q675838 = .inl (I .byte, 8192, .inl f675859) := (n675932 q675838 (rn_ao he675918 he675923)).trans he675918
    have he675935 : F675930 q675837 = .inr (20, [.int p675852, .int p675843, .int p675854, .int p675855, .int p675856, .int p675857, .int p675858]) := e675931
    have hfr675936 : rFr [q675837, q675836] P675834 F675835 F675930 := rFr_put hfr675924 n675932
    have tp675937 : tP I P675913 F675930 o675900 q675903 qo675850 qo675849 xt675912 := tP_put x675907 he675923 (by decide) n675932
    clear hsb675915 hfr675916 he675917 he675918 he675923 hfr675924; try clear r675874; try clear w675875; try clear dc675871; try clear ds675872; try clear hp675873; try clear r675884; try clear w675885; try clear dc675881; try clear ds675882; try clear hp675883
    refine G_aload_n 0 dr_cX14_row_35 rfl ?_
    refine G_ldcK (a := D.2 1000 40) dr_cX14_row_36 (fun _ _ _ h => gx_vk 40 rfl rfl h) ?_
    have hl40_675937 : (sb_40.length : Int) = 1 := rfl
    refine Gw_callV (As := [.ref (D.2 1000 40)]) (gV_ok D I) (cp_674599_Reader_want l hl0 D I P675913 F675930 q675836 q675838 (D.2 1000 40) (D.2 1001 40) sb_40 p675839 o675899 o675900 o675901 o675902 p675841 q675903 p675846 p675847 p675848 qo675849 qo675850 p675851 f675859 xt675912 hm675919 hm675921 he675933 he675934 (gx_sc 40 rfl rfl) (by omega) (by decide +kernel) bp675839 bo675899 bo675900 bo675901 bp675841 bp675846 bp675847 bp675848 bp675851 bf675859 (by omega) (hsb675922 _ x675862) (hsb675922 _ x675863) tp675937) dr_cX14_row_38 ⟨wr_9_137, wr_1_32, wr_9_140, by decide, rfl, (Nat.le_of_ble_eq_true rfl), (Nat.le_of_ble_eq_true rfl)⟩ wr_9_139 wr_p_83 hm675919 he675933 rfl (show (16 * (o675899.toInt - p675840.toInt) + 0 : Int).toNat + ((16 * (p675839.toInt - o675899.toInt)).toNat + 1) ≤ ((16 * (p675839.toInt - p675840.toInt)).toNat + 9) by first | omega | decide) (show (160 * (o675899.toInt - p675840.toInt) + 0 : Int).toNat + ((160 * (p675839.toInt - o675899.toInt)).toNat + 7) ≤ ((160 * (p675839.toInt - p675840.toInt)).toNat + 71) by first | omega | decide) (Nat.le_of_ble_eq_true rfl) (fun r675942 w675943 dc675939 ds675940 hp675941 => ?_) (fun _ qx675955 _ dc675953 ds675954 hx => by obtain ⟨P675951, F675952, rfl, rfl, hsb675944, hfr675945, hq675946, hqn675947, hwr675948, hdc675949, hds675950, ht675956⟩ := hx; exact GT_outA rfl (show (16 * (o675899.toInt - p675840.toInt) + 0 : Int).toNat + dc675953 ≤ ((16 * (p675839.toInt - p675840.toInt)).toNat + 9) by omega) (show (160 * (o675899.toInt - p675840.toInt) + 0 : Int).toNat + ds675954 ≤ ((160 * (p675839.toInt - p675840.toInt)).toNat + 71) by omega) ⟨P675951, F675952, rfl, rfl, (rSub_tr hsb675922 hsb675944), (show rFr [q675837, q675836] P675834 F675835 F675952 from rFr_call hsb675922 hfr675936 hfr675945 (fun b hb hn => ⟨(nm_c (fun e => hn (e ▸ List.mem_cons_self)) (nm_c (fun e => hn (e ▸ (List.mem_cons_of_mem _ List.mem_cons_self))) nm_n)), nm_n⟩)), hq675946, (fun z => hqn675947 (hsb675922 _ z)), hwr675948, (by omega), (by omega), ⟨p675852, p675843, p675854, p675855, p675856, p675857, p675858, ((hfr675945 q675837 hm675920 nm_n).trans he675935), bp675852, (gB_w bv675925 (by decide) (by decide)), bp675856, bp675857, bp675858, x675868, x675866, x675867⟩, (fun R c1 c2 c3 c4 c5 => c2 o675876 xt675912 o675899 o675900 o675901 o675902 bo675876 ht675878 r675880 bo675899 bo675900 bo675901 ht675911 ht675956)⟩)
    obtain ⟨P675970, F675971, o675957, o675958, o675959, o675960, q675961, xt675969, rfl, rfl, hsb675972, hfr675973, he675974, he675975, hdc, hds, bo675957, bo675958, bo675959, x675962, x675963, x675964, x675965, x675966, x675967, ht675968⟩ := hp675941
    have hm675976 : q675836 ∈ P675970 := hsb675972 q675836 hm675919
    have hm675977 : q675837 ∈ P675970 := hsb675972 q675837 hm675920
    have hm675978 : q675838 ∈ P675970 := hsb675972 q675838 hm675921
    have hsb675979 : rSub P675834 P675970 := rSub_tr hsb675922 hsb675972
    have he675980 : F675971 q675837 = .inr (20, [.int p675852, .int p675843, .int p675854, .int p675855, .int p675856, .int p675857, .int p675858]) := (hfr675973 q675837 hm675920 (nm_c (rn_oo he675935 he675933 (by decide)) nm_n)).trans he675935
    have hfr675981 : rFr [q675837, q675836] P675834 F675835 F675971 := rFr_call hsb675922 hfr675936 hfr675973 (fun b hb hn => ⟨(nm_c (fun e => hn (e ▸ List.mem_cons_self)) (nm_c (fun e => hn (e ▸ (List.mem_cons_of_mem _ List.mem_cons_self))) nm_n)), (nm_c (fun e => hn (e ▸ (List.mem_cons_of_mem _ List.mem_cons_self))) nm_n)⟩)
    have bo675960 := gB_any o675960
    change G _ _ _ _ _ _ _ _ _ _ _
    refine G_widen (cs' := (16 * (o675899.toInt - p675840.toInt) + 0 : Int).toNat + ((16 * (o675957.toInt - o675899.toInt)).toNat)) (sl' := (160 * (o675899.toInt - p675840.toInt) + 0 : Int).toNat + ((160 * (o675957.toInt - o675899.toInt)).toNat)) (by omega) (by omega) ?_
    have x675982 : p675840.toInt ≤ o675957.toInt := by omega
    have x675983 : p675840.toInt + 1 ≤ o675899.toInt := by have q := (prQ_le x675929 x675967); omega
    have x675984 : p675840.toInt + 1 ≤ o675957.toInt := by omega
    have x675985 : prQ o675958 (p675840.toInt + 2) o675957 := prP_q x675963 x675983 (by omega)
    refine G_widen (cs' := (16 * (o675957.toInt - p675840.toInt) + 0 : Int).toNat) (sl' := (160 * (o675957.toInt - p675840.toInt) + 0 : Int).toNat) (by omega) (by omega) ?_
    clear hm675919 hm675920 hm675921 hsb675922 he675933 he675934 he675935 hfr675936 hsb675972 hfr675973; try clear r675942; try clear w675943; try clear dc675939; try clear ds675940; try clear hp675941
    refine G_aload_n 0 dr_cX14_row_41 rfl ?_
    refine G_ldcK (a := D.2 1000 41) dr_cX14_row_42 (fun _ _ _ h => gx_vk 41 rfl rfl h) ?_
    have hl41_675985 : (sb_41.length : Int) = 2 := rfl
    refine Gw_callV (As := [.ref (D.2 1000 41)]) (gV_ok D I) (cp_674517_Reader_is l hl0 D I P675970 F675971 q675836 q675838 (D.2 1000 41) (D.2 1001 41) sb_41 p675839 o675957 o675958 o675959 o675960 o675900 q675961 p675846 p675847 p675848 qo675849 qo675850 p675851 f675859 xt675969 hm675976 hm675978 he675974 he675975 (gx_sc 41 rfl rfl) (by omega) (by decide +kernel) bp675839 bo675957 bo675958 bo675959 bo675900 bp675846 bp675847 bp675848 bp675851 bf675859 x675965) dr_cX14_row_44 ⟨wr_9_141, wr_1_32, wr_9_144, by decide, rfl, (Nat.le_of_ble_eq_true rfl), (Nat.le_of_ble_eq_true rfl)⟩ wr_9_143 wr_p_84 hm675976 he675974 rfl (show (16 * (o675957.toInt - p675840.toInt) + 0 : Int).toNat + 0 ≤ ((16 * (p675839.toInt - p675840.toInt)).toNat + 9) by first | omega | decide) (show (160 * (o675957.toInt - p675840.toInt) + 0 : Int).toNat + 0 ≤ ((160 * (p675839.toInt - p675840.toInt)).toNat + 71) by first | omega | decide) (Nat.le_of_ble_eq_true rfl) (fun r675990 w675991 dc675987 ds675988 hp675989 => ?_) (fun _ _ _ _ _ z => z.elim)
    obtain ⟨o675992, rfl, rfl, hdc, hds, bo675992, x675993, ht675994⟩ := hp675989
    change G _ _ _ _ _ _ _ (.int o675992 :: _) _ _ _
    refine G_widen (cs' := (16 * (o675957.toInt - p675840.toInt) + 0 : Int).toNat + 0) (sl' := (160 * (o675957.toInt - p675840.toInt) + 0 : Int).toNat + 0) (by omega) (by omega) ?_
    refine G_if_eq 61 dr_cX14_row_47 (by decide +kernel) (fun hc675995 => ?_) (fun hc675995 => ?_)
    · have r675996 : o675992.toInt = 0 := gj_eq hc675995 (show Int32.toInt 0 = 0 by decide)
      have bo675992' : gB o675992 0 0 := ⟨by omega, by omega⟩
      refine G_aload_n 0 dr_cX14_row_61 rfl ?_
      refine G_aload_n 1 dr_cX14_row_62 rfl ?_
      refine G_iconst 0 dr_cX14_row_63 (by decide +kernel) ?_
      refine Gw_callV (As := [.ref q675837, .int 0]) (gV_ok D I) (cp_674865_Reader_operand l hl0 D I P675970 F675971 q675836 q675837 q675838 0 p675839 o675957 o675958 o675959 o675960 o675900 q675961 p675846 p675847 p675848 qo675849 qo675850 p675851 p675852 p675843 p675854 p675855 p675856 p675857 p675858 f675859 xt675969 hm675976 hm675977 hm675978 he675974 he675980 he675975 (gB_w (gBl (show Int32.toInt 0 = 0 by decide)) (by decide) (by decide)) bp675839 bo675957 bo675958 bo675959 bo675900 bp675846 bp675847 bp675848 bp675851 bp675852 (gB_w bv675925 (by decide) (by decide)) bp675856 bp675857 bp675858 bf675859 (by omega) (hsb675979 _ x675862) (hsb675979 _ x675863) x675965 x675966 x675866 x675867 x675868) dr_cX14_row_64 ⟨wr_10_89, wr_1_32, wr_10_92, by decide, rfl, (Nat.le_of_ble_eq_true rfl), (Nat.le_of_ble_eq_true rfl)⟩ wr_10_91 wr_p_89 hm675976 he675974 rfl (show (16 * (o675957.toInt - p675840.toInt) + 0 : Int).toNat + 0 + ((16 * (p675839.toInt - o675957.toInt)).toNat + 1) ≤ ((16 * (p675839.toInt - p675840.toInt)).toNat + 9) by first | omega | decide) (show (160 * (o675957.toInt - p675840.toInt) + 0 : Int).toNat + 0 + ((160 * (p675839.toInt - o675957.toInt)).toNat + 7) ≤ ((160 * (p675839.toInt - p675840.toInt)).toNat + 71) by first | omega | decide) (Nat.le_of_ble_eq_true rfl) (fun r676000 w676001 dc675997 ds675998 hp675999 => ?_) (fun _ qx676013 _ dc676011 ds676012 hx => by obtain ⟨P676009, F676010, rfl, rfl, hsb676002, hfr676003, hq676004, hqn676005, hwr676006, hdc676007, hds676008, x676014, ht676015⟩ := hx; exact GT_outA rfl (show (16 * (o675957.toInt - p675840.toInt) + 0 : Int).toNat + 0 + dc676011 ≤ ((16 * (p675839.toInt - p675840.toInt)).toNat + 9) by omega) (show (160 * (o675957.toInt - p675840.toInt) + 0 : Int).toNat + 0 + ds676012 ≤ ((160 * (p675839.toInt - p675840.toInt)).toNat + 71) by omega) ⟨P676009, F676010, rfl, rfl, (rSub_tr hsb675979 hsb676002), (show rFr [q675837, q675836] P675834 F675835 F676010 from rFr_call hsb675979 hfr675981 hfr676003 (fun b hb hn => ⟨(nm_c (fun e => hn (e ▸ List.mem_cons_self)) (nm_c (fun e => hn (e ▸ (List.mem_cons_of_mem _ List.mem_cons_self))) nm_n)), nm_n⟩)), hq676004, (fun z => hqn676005 (hsb675979 _ z)), hwr676006, (by omega), (by omega), ⟨p675852, p675843, p675854, p675855, p675856, p675857, p675858, ((hfr676003 q675837 hm675977 nm_n).trans he675980), bp675852, (gB_w bv675925 (by decide) (by decide)), bp675856, bp675857, bp675858, x675868, x675866, x675867⟩, (fun R c1 c2 c3 c4 c5 => c3 o675876 xt675912 o675899 o675900 o675901 o675902 xt675969 o675957 o675958 o675959 o675960 o675992 bo675876 ht675878 r675880 bo675899 bo675900 bo675901 ht675911 bo675957 bo675958 bo675959 ht675968 bo675992 ht675994 r675996 ht676015)⟩)
      obtain ⟨P676035, F676036, o676016, o676017, o676018, o676019, q676020, o676021, o676022, o676023, o676024, xt676034, rfl, rfl, hsb676037, hfr676038, he676039, he676040, he676041, hdc, hds, bo676016, bo676017, bo676018, bo676023, bo676024, x676025, x676026, x676027, x676028, x676029, x676030, x676031, x676032, ht676033⟩ := hp675999
      have hm676042 : q675836 ∈ P676035 := hsb676037 q675836 hm675976
      have hm676043 : q675837 ∈ P676035 := hsb676037 q675837 hm675977
      have hm676044 : q675838 ∈ P676035 := hsb676037 q675838 hm675978
      have hsb676045 : rSub P675834 P676035 := rSub_tr hsb675979 hsb676037
      have hfr676046 : rFr [q675837, q675836] P675834 F675835 F676036 := rFr_call hsb675979 hfr675981 hfr676038 (fun b hb hn => ⟨(nm_c (fun e => hn (e ▸ List.mem_cons_self)) (nm_c (fun e => hn (e ▸ (List.mem_cons_of_mem _ List.mem_cons_self))) nm_n)), (nm_c (fun e => hn (e ▸ List.mem_cons_self)) (nm_c (fun e => hn (e ▸ (List.mem_cons_of_mem _ List.mem_cons_self))) nm_n))⟩)
      have bo676019 := gB_any o676019
      have bo676021 := gB_any o676021
      have bo676022 := gB_any o676022
      change G _ _ _ _ _ _ _ _ _ _ _
      refine G_widen (cs' := (16 * (o675957.toInt - p675840.toInt) + 0 : Int).toNat + 0 + ((16 * (o676016.toInt - o675957.toInt)).toNat)) (sl' := (160 * (o675957.toInt - p675840.toInt) + 0 : Int).toNat + 0 + ((160 * (o676016.toInt - o675957.toInt)).toNat)) (by omega) (by omega) ?_
      have x676047 : p675840.toInt ≤ o676016.toInt := by omega
      have x676048 : p675840.toInt + 2 ≤ o675957.toInt := by have q := (prQ_le x675985 x676032); omega
      have x676049 : p675840.toInt + 2 ≤ o676016.toInt := by omega
      have x676050 : prQ o676017 (p675840.toInt + 3) o676016 := prP_q x676026 x676048 (by omega)
      refine G_widen (cs' := (16 * (o676016.toInt - p675840.toInt) + 0 : Int).toNat) (sl' := (160 * (o676016.toInt - p675840.toInt) + 0 : Int).toNat) (by omega) (by omega) ?_
      clear he675974 he675975 hm675976 hm675977 hm675978 hsb675979 he675980 hfr675981 hsb676037 hfr676038; try clear r675990; try clear w675991; try clear dc675987; try clear ds675988; try clear hp675989; try clear r676000; try clear w676001; try clear dc675997; try clear ds675998; try clear hp675999
      refine G_aload_n 1 dr_cX14_row_67 rfl ?_
      refine G_aload_n 0 dr_cX14_row_68 rfl ?_
      refine Gp_get 3 hm676042 he676040 dr_cX14_row_69 (gk_X14 D I) (Nat.le_of_ble_eq_true rfl) wr_9_39 rfl ?_
      refine G_iconst 5 dr_cX14_row_72 (by decide +kernel) ?_
      refine G_icmp_ne 86 dr_cX14_row_73 (by decide +kernel) (fun hc676051 => ?_) (fun hc676051 => ?_)
      · have r676052 : o676017.toInt ≠ 5 := gj_neq hc676051 (show Int32.toInt 5 = 5 by decide)
        refine G_widen (cs' := (16 * (o676016.toInt - p675840.toInt) + 8 : Int).toNat) (sl' := (160 * (o676016.toInt - p675840.toInt) + 64 : Int).toNat) (by omega) (by omega) ?_
        refine G_iconst 0 dr_cX14_row_86 (by decide +kernel) ?_
        refine Gp_put 0 hm676043 he676039 dr_cX14_row_87 (gk_X15 D I) (Nat.le_of_ble_eq_true rfl) wr_9_179 rfl rfl rfl (Nat.le_of_ble_eq_true rfl) (fun F676053 e676054 n676055 => ?_)
        have he676056 : F676053 q675836 = .inr (19, [.ref q675838, .int p675839, .int o676016, .int o676017, .int o676018, .int o676019, .int o675958, .ref q676020, .int p675846, .int p675847, .int p675848, .ref qo675849, .ref qo675850, .int p675851]) := (n676055 q675836 (rn_oo he676040 he676039 (by decide))).trans he676040
        have he676057 : F676053 q675838 = .inl (I .byte, 8192, .inl f675859) := (n676055 q675838 (rn_ao he676041 he676039)).trans he676041
        have he676058 : F676053 q675837 = .inr (20, [.int 0, .int p675843, .int o676021, .int o676022, .int p675856, .int o676023, .int o676024]) := e676054
        have hfr676059 : rFr [q675837, q675836] P675834 F675835 F676053 := rFr_put' List.mem_cons_self hfr676046 n676055
        have tp676060 : tP I P676035 F676053 o676017 q676020 qo675850 qo675849 xt676034 := tP_put x676028 he676039 (by decide) n676055
        clear he676039 he676040 he676041 hfr676046
        refine G_aload_n 1 dr_cX14_row_90 rfl ?_
        refine Gp_get 0 hm676043 he676058 dr_cX14_row_91 (gk_X15 D I) (Nat.le_of_ble_eq_true rfl) wr_9_179 rfl ?_
        refine G_if_ne 98 dr_cX14_row_94 (by decide +kernel) (fun hc => absurd hc (by decide)) (fun _ => ?_)
        exact G_vretA dr_cX14_row_97 rfl (show (16 * (o676016.toInt - p675840.toInt) + 8 : Int).toNat ≤ ((16 * (p675839.toInt - p675840.toInt)).toNat + 9) by omega) (show (160 * (o676016.toInt - p675840.toInt) + 64 : Int).toNat ≤ ((160 * (p675839.toInt - p675840.toInt)).toNat + 71) by omega) ⟨P676035, F676053, o676016, o676017, o676018, o676019, o675958, q676020, 0, p675843, o676021, o676022, o676023, o676024, xt676034, rfl, rfl, hsb676045, hfr676059, he676058, he676056, he676057, (by omega), (by omega), bo676016, bo676017, bo676018, bo675958, (gB_w (gBl (show Int32.toInt 0 = 0 by decide)) (by decide) (by decide)), (gB_w bv675925 (by decide) (by decide)), bo676023, bo676024, (by have qa0 : Int32.toInt 0 = 0 := (by decide); omega), (prP_le x676026 (by omega)), (by have qa0 : Int32.toInt 0 = 0 := (by decide); omega), tp676060, x676029, x676030, x676031, (Or.inl (by decide)), (Or.inl (by decide)), (show nzK p675841 by unfold nzK; omega), ⟨by omega, Or.inr (by omega)⟩, (fun R c1 c2 c3 c4 c5 => c1 o675876 xt675912 o675899 o675900 o675901 o675902 xt675969 o675957 o675958 o675959 o675960 o675992 xt676034 o676016 o676017 o676018 o676019 o676021 o676022 o676023 o676024 bo675876 ht675878 r675880 bo675899 bo675900 bo675901 ht675911 bo675957 bo675958 bo675959 ht675968 bo675992 ht675994 r675996 bo676016 bo676017 bo676018 bo676023 bo676024 ht676033 r676052)⟩
      · have r676061 : o676017.toInt = 5 := gj_eq hc676051 (show Int32.toInt 5 = 5 by decide)
        have bo676017' : gB o676017 5 5 := ⟨by omega, by omega⟩
        refine G_aload_n 0 dr_cX14_row_76 rfl ?_
        refine Gp_get 7 hm676042 he676040 dr_cX14_row_77 (gk_X14 D I) (Nat.le_of_ble_eq_true rfl) wr_9_43 rfl ?_
        obtain ⟨q676062, p676063, p676064, hm676065, he676066, hm676067, he676068, bq676062, x676069, bp676064, hg676070, hg676071⟩ := x676028.2 (by omega)
        have bp676063 := gB_any p676063
        refine Gw_callSN (As := [.ref q676020]) (gV_ok D I) (cp_675105_SpillForgeModel_operation l hl0 D I P676035 F676036 q676020 q676062 p676063 p676064 xt676034.2 xt676034.1 hm676065 hm676067 he676066 he676068 bp676064 bq676062 (by have qa0 : Int32.toInt 0 = 0 := (by decide); omega) (by have qa0 : Int32.toInt 0 = 0 := (by decide); omega)) dr_cX14_row_80 ⟨(fun _ _ _ h => gn_w 81 rfl h), wr_1_14, wr_10_97, by decide, rfl, (Nat.le_of_ble_eq_true rfl), (Nat.le_of_ble_eq_true rfl)⟩ wr_10_96 (show (16 * (o676016.toInt - p675840.toInt) + 0 : Int).toNat + 8 ≤ ((16 * (p675839.toInt - p675840.toInt)).toNat + 9) by first | omega | decide) (show (160 * (o676016.toInt - p675840.toInt) + 0 : Int).toNat + 64 ≤ ((160 * (p675839.toInt - p675840.toInt)).toNat + 71) by first | omega | decide) (Nat.le_of_ble_eq_true rfl) (fun r676075 w676076 dc676072 ds676073 hp676074 => ?_)
        obtain ⟨P676081, F676082, o676077, rfl, rfl, hsb676083, hfr676084, he676085, he676086, hdc, hds, bo676077, x676078, x676079, ht676080⟩ := hp676074
        have hm676087 : q675836 ∈ P676081 := hsb676083 q675836 hm676042
        have hm676088 : q675837 ∈ P676081 := hsb676083 q675837 hm676043
        have hm676089 : q675838 ∈ P676081 := hsb676083 q675838 hm676044
        have hm676090 : q676020 ∈ P676081 := hsb676083 q676020 hm676065
        have hm676091 : q676062 ∈ P676081 := hsb676083 q676062 hm676067
        have hsb676092 : rSub P675834 P676081 := rSub_tr hsb676045 hsb676083
        have he676093 : F676082 q675837 = .inr (20, [.int p675852, .int p675843, .int o676021, .int o676022, .int p675856, .int o676023, .int o676024]) := (hfr676084 q675837 hm676043 nm_n).trans he676039
        have he676094 : F676082 q675836 = .inr (19, [.ref q675838, .int p675839, .int o676016, .int o676017, .int o676018, .int o676019, .int o675958, .ref q676020, .int p675846, .int p675847, .int p675848, .ref qo675849, .ref qo675850, .int p675851]) := (hfr676084 q675836 hm676042 nm_n).trans he676040
        have he676095 : F676082 q675838 = .inl (I .byte, 8192, .inl f675859) := (hfr676084 q675838 hm676044 nm_n).trans he676041
        have hfr676096 : rFr [q675837, q675836] P675834 F675835 F676082 := rFr_call hsb676045 hfr676046 hfr676084 (fun b hb hn => ⟨(nm_c (fun e => hn (e ▸ List.mem_cons_self)) (nm_c (fun e => hn (e ▸ (List.mem_cons_of_mem _ List.mem_cons_self))) nm_n)), nm_n⟩)
        have tp676097 : tP I P676081 F676082 o676017 q676020 qo675850 qo675849 xt676034 := tP_new x676028 hsb676083 (fun b hb => hfr676084 b hb (fun z => by cases z)) (Or.inl rfl) (Or.inl rfl)
        change G _ _ _ _ _ _ _ (.int o676077 :: _) _ _ _
        refine G_widen (cs' := (16 * (o676016.toInt - p675840.toInt) + 0 : Int).toNat + 8) (sl' := (160 * (o676016.toInt - p675840.toInt) + 0 : Int).toNat + 64) (by omega) (by omega) ?_
        refine G_widen (cs' := (16 * (o676016.toInt - p675840.toInt) + 8 : Int).toNat) (sl' := (160 * (o676016.toInt - p675840.toInt) + 64 : Int).toNat) (by omega) (by omega) ?_
        refine G_goto 87 dr_cX14_row_83 (by decide +kernel) ?_
        refine Gp_put 0 hm676088 he676093 dr_cX14_row_87 (gk_X15 D I) (Nat.le_of_ble_eq_true rfl) wr_9_179 rfl rfl rfl (Nat.le_of_ble_eq_true rfl) (fun F676098 e676099 n676100 => ?_)
        have he676101 : F676098 q675836 = .inr (19, [.ref q675838, .int p675839, .int o676016, .int o676017, .int o676018, .int o676019, .int o675958, .ref q676020, .int p675846, .int p675847, .int p675848, .ref qo675849, .ref qo675850, .int p675851]) := (n676100 q675836 (rn_oo he676094 he676093 (by decide))).trans he676094
        have he676102 : F676098 q675838 = .inl (I .byte, 8192, .inl f675859) := (n676100 q675838 (rn_ao he676095 he676093)).trans he676095
        have he676103 : F676098 q676020 = .inr (0, [.ref q676062, .int 0, .int p676063, .int p676064]) := (n676100 q676020 (rn_oo he676085 he676093 (by decide))).trans he676085
        have he676104 : F676098 q676062 = .inl (I .byte, xt676034.1, .inl xt676034.2) := (n676100 q676062 (rn_ao he676086 he676093)).trans he676086
        have he676105 : F676098 q675837 = .inr (20, [.int o676077, .int p675843, .int o676021, .int o676022, .int p675856, .int o676023, .int o676024]) := e676099
        have hfr676106 : rFr [q675837, q675836] P675834 F675835 F676098 := rFr_put' List.mem_cons_self hfr676096 n676100
        have tp676107 : tP I P676081 F676098 o676017 q676020 qo675850 qo675849 xt676034 := tP_put tp676097 he676093 (by decide) n676100
        clear he676039 he676040 he676041 hm676042 hm676043 hm676044 hsb676045 hfr676046 hm676065 he676066 hm676067 he676068 hg676070 hg676071 hsb676083 hfr676084 he676085 he676086 he676093 he676094 he676095 hfr676096; try clear r676075; try clear w676076; try clear dc676072; try clear ds676073; try clear hp676074
        refine G_aload_n 1 dr_cX14_row_90 rfl ?_
        refine Gp_get 0 hm676088 he676105 dr_cX14_row_91 (gk_X15 D I) (Nat.le_of_ble_eq_true rfl) wr_9_179 rfl ?_
        refine G_if_ne 98 dr_cX14_row_94 (by decide +kernel) (fun hc676108 => ?_) (fun hc676108 => ?_)
        · have r676109 : o676077.toInt ≠ 0 := gj_neq hc676108 (show Int32.toInt 0 = 0 by decide)
          have bo676077' : gB o676077 1 14 := ⟨by omega, by omega⟩
          refine G_aload_n 0 dr_cX14_row_98 rfl ?_
          refine Gw_callV (As := []) (gV_ok D I) (cp_672530_Reader_next l hl0 D I P676081 F676098 q675836 q675838 p675839 o676016 o676017 o676018 o676019 o675958 q676020 p675846 p675847 p675848 qo675849 qo675850 p675851 f675859 hm676087 hm676089 he676101 he676102 bp675839 bo676016 (gB_w bo676017' (by decide) (by decide)) bo676018 bo675958 bp675846 bp675847 bp675848 bp675851 bf675859 (by have qa0 : Int32.toInt 0 = 0 := (by decide); omega) (hsb676092 _ x675862) (hsb676092 _ x675863)) dr_cX14_row_99 ⟨wr_7_215, wr_1_32, wr_7_218, by decide, rfl, (Nat.le_of_ble_eq_true rfl), (Nat.le_of_ble_eq_true rfl)⟩ wr_7_217 wr_p_75 hm676087 he676101 rfl (show (16 * (o676016.toInt - p675840.toInt) + 8 : Int).toNat + ((16 * (p675839.toInt - o676016.toInt)).toNat) ≤ ((16 * (p675839.toInt - p675840.toInt)).toNat + 9) by first | omega | decide) (show (160 * (o676016.toInt - p675840.toInt) + 64 : Int).toNat + ((160 * (p675839.toInt - o676016.toInt)).toNat) ≤ ((160 * (p675839.toInt - p675840.toInt)).toNat + 71) by first | omega | decide) (Nat.le_of_ble_eq_true rfl) (fun r676113 w676114 dc676110 ds676111 hp676112 => ?_) (fun _ _ _ _ _ z => z.elim)
          obtain ⟨P676127, F676128, o676115, o676116, o676117, o676118, q676119, xt676126, rfl, rfl, hsb676129, hfr676130, he676131, he676132, hdc, hds, bo676115, bo676116, bo676117, x676120, x676121, x676122, x676123, x676124, ht676125⟩ := hp676112
          have hm676133 : q675836 ∈ P676127 := hsb676129 q675836 hm676087
          have hm676134 : q675837 ∈ P676127 := hsb676129 q675837 hm676088
          have hm676135 : q675838 ∈ P676127 := hsb676129 q675838 hm676089
          have hm676136 : q676020 ∈ P676127 := hsb676129 q676020 hm676090
          have hm676137 : q676062 ∈ P676127 := hsb676129 q676062 hm676091
          have hsb676138 : rSub P675834 P676127 := rSub_tr hsb676092 hsb676129
          have he676139 : F676128 q675837 = .inr (20, [.int o676077, .int p675843, .int o676021, .int o676022, .int p675856, .int o676023, .int o676024]) := (hfr676130 q675837 hm676088 (nm_c (rn_oo he676105 he676101 (by decide)) nm_n)).trans he676105
          have he676140 : F676128 q676020 = .inr (0, [.ref q676062, .int 0, .int p676063, .int p676064]) := (hfr676130 q676020 hm676090 (nm_c (rn_oo he676103 he676101 (by decide)) nm_n)).trans he676103
          have he676141 : F676128 q676062 = .inl (I .byte, xt676034.1, .inl xt676034.2) := (hfr676130 q676062 hm676091 (nm_c (rn_ao he676104 he676101) nm_n)).trans he676104
          have hfr676142 : rFr [q675837, q675836] P675834 F675835 F676128 := rFr_call hsb676092 hfr676106 hfr676130 (fun b hb hn => ⟨(nm_c (fun e => hn (e ▸ List.mem_cons_self)) (nm_c (fun e => hn (e ▸ (List.mem_cons_of_mem _ List.mem_cons_self))) nm_n)), (nm_c (fun e => hn (e ▸ (List.mem_cons_of_mem _ List.mem_cons_self))) nm_n)⟩)
          have bo676118 := gB_any o676118
          change G _ _ _ _ _ _ _ _ _ _ _
          refine G_widen (cs' := (16 * (o676016.toInt - p675840.toInt) + 8 : Int).toNat + ((16 * (o676115.toInt - o676016.toInt)).toNat)) (sl' := (160 * (o676016.toInt - p675840.toInt) + 64 : Int).toNat + ((160 * (o676115.toInt - o676016.toInt)).toNat)) (by omega) (by omega) ?_
          have x676143 : p675840.toInt ≤ o676115.toInt := by omega
          have x676144 : p675840.toInt + 2 ≤ o676016.toInt := by have q := (prQ_le x676050 (show nzK o676017 by unfold nzK; omega)); omega
          have x676145 : p675840.toInt + 2 ≤ o676115.toInt := by omega
          have x676146 : prQ o676116 (p675840.toInt + 3) o676115 := prP_q x676121 x676144 (by omega)
          refine G_widen (cs' := (16 * (o676115.toInt - p675840.toInt) + 8 : Int).toNat) (sl' := (160 * (o676115.toInt - p675840.toInt) + 64 : Int).toNat) (by omega) (by omega) ?_
          clear bp676064 bp676063 hm676087 hm676088 hm676089 hm676090 hm676091 hsb676092 he676101 he676102 he676103 he676104 he676105 hfr676106 hsb676129 hfr676130 hm676136 hm676137 he676140 he676141; try clear x675904; try clear x675905; try clear x675906; try clear x675926; try clear x675928; try clear x675929; try clear x675962; try clear x675963; try clear x675983; try clear r676113; try clear w676114; try clear dc676110; try clear ds676111; try clear hp676112
          refine G_aload_n 0 dr_cX14_row_102 rfl ?_
          refine G_aload_n 1 dr_cX14_row_103 rfl ?_
          refine G_iconst 1 dr_cX14_row_104 (by decide +kernel) ?_
          refine Gw_callV (As := [.ref q675837, .int 1]) (gV_ok D I) (cp_674865_Reader_operand l hl0 D I P676127 F676128 q675836 q675837 q675838 1 p675839 o676115 o676116 o676117 o676118 o676017 q676119 p675846 p675847 p675848 qo675849 qo675850 p675851 o676077 p675843 o676021 o676022 p675856 o676023 o676024 f675859 xt676126 hm676133 hm676134 hm676135 he676131 he676139 he676132 (gB_w (gBl (show Int32.toInt 1 = 1 by decide)) (by decide) (by decide)) bp675839 bo676115 bo676116 bo676117 (gB_w bo676017' (by decide) (by decide)) bp675846 bp675847 bp675848 bp675851 (gB_w bo676077' (by decide) (by decide)) (gB_w bv675925 (by decide) (by decide)) bp675856 bo676023 bo676024 bf675859 (by omega) (hsb676138 _ x675862) (hsb676138 _ x675863) x676123 x676124 x676030 x676031 (opP_of (gB_w bo676077' (by decide) (by decide)))) dr_cX14_row_105 ⟨wr_10_89, wr_1_32, wr_10_92, by decide, rfl, (Nat.le_of_ble_eq_true rfl), (Nat.le_of_ble_eq_true rfl)⟩ wr_10_91 wr_p_89 hm676133 he676131 rfl (show (16 * (o676115.toInt - p675840.toInt) + 8 : Int).toNat + ((16 * (p675839.toInt - o676115.toInt)).toNat + 1) ≤ ((16 * (p675839.toInt - p675840.toInt)).toNat + 9) by first | omega | decide) (show (160 * (o676115.toInt - p675840.toInt) + 64 : Int).toNat + ((160 * (p675839.toInt - o676115.toInt)).toNat + 7) ≤ ((160 * (p675839.toInt - p675840.toInt)).toNat + 71) by first | omega | decide) (Nat.le_of_ble_eq_true rfl) (fun r676150 w676151 dc676147 ds676148 hp676149 => ?_) (fun _ qx676163 _ dc676161 ds676162 hx => by obtain ⟨P676159, F676160, rfl, rfl, hsb676152, hfr676153, hq676154, hqn676155, hwr676156, hdc676157, hds676158, x676164, ht676165⟩ := hx; exact GT_outA rfl (show (16 * (o676115.toInt - p675840.toInt) + 8 : Int).toNat + dc676161 ≤ ((16 * (p675839.toInt - p675840.toInt)).toNat + 9) by omega) (show (160 * (o676115.toInt - p675840.toInt) + 64 : Int).toNat + ds676162 ≤ ((160 * (p675839.toInt - p675840.toInt)).toNat + 71) by omega) ⟨P676159, F676160, rfl, rfl, (rSub_tr hsb676138 hsb676152), (show rFr [q675837, q675836] P675834 F675835 F676160 from rFr_call hsb676138 hfr676142 hfr676153 (fun b hb hn => ⟨(nm_c (fun e => hn (e ▸ List.mem_cons_self)) (nm_c (fun e => hn (e ▸ (List.mem_cons_of_mem _ List.mem_cons_self))) nm_n)), nm_n⟩)), hq676154, (fun z => hqn676155 (hsb676138 _ z)), hwr676156, (by omega), (by omega), ⟨o676077, p675843, o676021, o676022, p675856, o676023, o676024, ((hfr676153 q675837 hm676134 nm_n).trans he676139), (gB_w bo676077' (by decide) (by decide)), (gB_w bv675925 (by decide) (by decide)), bp675856, bo676023, bo676024, (opP_of (gB_w bo676077' (by decide) (by decide))), x676030, x676031⟩, (fun R c1 c2 c3 c4 c5 => c4 o675876 xt675912 o675899 o675900 o675901 o675902 xt675969 o675957 o675958 o675959 o675960 o675992 xt676034 o676016 o676017 o676018 o676019 o676021 o676022 o676023 o676024 o676077 xt676126 o676115 o676116 o676117 o676118 bo675876 ht675878 r675880 bo675899 bo675900 bo675901 ht675911 bo675957 bo675958 bo675959 ht675968 bo675992 ht675994 r675996 bo676016 bo676017 bo676018 bo676023 bo676024 ht676033 r676061 bo676077 ht676080 r676109 bo676115 bo676116 bo676117 ht676125 ht676165)⟩)
          obtain ⟨P676185, F676186, o676166, o676167, o676168, o676169, q676170, o676171, o676172, o676173, o676174, xt676184, rfl, rfl, hsb676187, hfr676188, he676189, he676190, he676191, hdc, hds, bo676166, bo676167, bo676168, bo676173, bo676174, x676175, x676176, x676177, x676178, x676179, x676180, x676181, x676182, ht676183⟩ := hp676149
          have hm676192 : q675836 ∈ P676185 := hsb676187 q675836 hm676133
          have hm676193 : q675837 ∈ P676185 := hsb676187 q675837 hm676134
          have hm676194 : q675838 ∈ P676185 := hsb676187 q675838 hm676135
          have hsb676195 : rSub P675834 P676185 := rSub_tr hsb676138 hsb676187
          have hfr676196 : rFr [q675837, q675836] P675834 F675835 F676186 := rFr_call hsb676138 hfr676142 hfr676188 (fun b hb hn => ⟨(nm_c (fun e => hn (e ▸ List.mem_cons_self)) (nm_c (fun e => hn (e ▸ (List.mem_cons_of_mem _ List.mem_cons_self))) nm_n)), (nm_c (fun e => hn (e ▸ List.mem_cons_self)) (nm_c (fun e => hn (e ▸ (List.mem_cons_of_mem _ List.mem_cons_self))) nm_n))⟩)
          have bo676169 := gB_any o676169
          have bo676171 := gB_any o676171
          have bo676172 := gB_any o676172
          change G _ _ _ _ _ _ _ _ _ _ _
          refine G_widen (cs' := (16 * (o676115.toInt - p675840.toInt) + 8 : Int).toNat + ((16 * (o676166.toInt - o676115.toInt)).toNat)) (sl' := (160 * (o676115.toInt - p675840.toInt) + 64 : Int).toNat + ((160 * (o676166.toInt - o676115.toInt)).toNat)) (by omega) (by omega) ?_
          have x676197 : p675840.toInt + 2 ≤ o676115.toInt := by have q := (prQ_le x676146 x676182); omega
          have x676198 : p675840.toInt + 2 ≤ o676166.toInt := by omega
          have x676199 : prQ o676167 (p675840.toInt + 3) o676166 := prP_q x676176 x676197 (by omega)
          exact G_vretA dr_cX14_row_108 rfl (show (16 * (o676115.toInt - p675840.toInt) + 8 : Int).toNat + ((16 * (o676166.toInt - o676115.toInt)).toNat) ≤ ((16 * (p675839.toInt - p675840.toInt)).toNat + 9) by omega) (show (160 * (o676115.toInt - p675840.toInt) + 64 : Int).toNat + ((160 * (o676166.toInt - o676115.toInt)).toNat) ≤ ((160 * (p675839.toInt - p675840.toInt)).toNat + 71) by omega) ⟨P676185, F676186, o676166, o676167, o676168, o676169, o676116, q676170, o676077, p675843, o676171, o676172, o676173, o676174, xt676184, rfl, rfl, hsb676195, hfr676196, he676189, he676190, he676191, (by omega), (by omega), bo676166, bo676167, bo676168, bo676116, (gB_w bo676077' (by decide) (by decide)), (gB_w bv675925 (by decide) (by decide)), bo676173, bo676174, (by omega), (prP_le x676176 (by omega)), (by omega), x676178, x676179, x676180, x676181, (opP_of (gB_w bo676077' (by decide) (by decide))), (Or.inl (by omega)), (show nzK p675841 by unfold nzK; omega), ⟨by omega, Or.inr (by omega)⟩, (fun R c1 c2 c3 c4 c5 => c2 o675876 xt675912 o675899 o675900 o675901 o675902 xt675969 o675957 o675958 o675959 o675960 o675992 xt676034 o676016 o676017 o676018 o676019 o676021 o676022 o676023 o676024 o676077 xt676126 o676115 o676116 o676117 o676118 xt676184 o676166 o676167 o676168 o676169 o676171 o676172 o676173 o676174 bo675876 ht675878 r675880 bo675899 bo675900 bo675901 ht675911 bo675957 bo675958 bo675959 ht675968 bo675992 ht675994 r675996 bo676016 bo676017 bo676018 bo676023 bo676024 ht676033 r676061 bo676077 ht676080 r676109 bo676115 bo676116 bo676117 ht676125 bo676166 bo676167 bo676168 bo676173 bo676174 ht676183)⟩
        · have r676200 : o676077.toInt = 0 := gj_eq hc676108 (show Int32.toInt 0 = 0 by decide)
          have bo676077' : gB o676077 0 0 := ⟨by omega, by omega⟩
          exact G_vretA dr_cX14_row_97 rfl (show (16 * (o676016.toInt - p675840.toInt) + 8 : Int).toNat ≤ ((16 * (p675839.toInt - p675840.toInt)).toNat + 9) by omega) (show (160 * (o676016.toInt - p675840.toInt) + 64 : Int).toNat ≤ ((160 * (p675839.toInt - p675840.toInt)).toNat + 71) by omega) ⟨P676081, F676098, o676016, o676017, o676018, o676019, o675958, q676020, o676077, p675843, o676021, o676022, o676023, o676024, (xt676034.1, xt676034.2), rfl, rfl, hsb676092, hfr676106, he676105, he676101, he676102, (by omega), (by omega), bo676016, (gB_w bo676017' (by decide) (by decide)), bo676018, bo675958, (gB_w bo676077' (by decide) (by decide)), (gB_w bv675925 (by decide) (by decide)), bo676023, bo676024, (by have qa0 : Int32.toInt 0 = 0 := (by decide); omega), (prP_le x676026 (by omega)), (by have qa0 : Int32.toInt 0 = 0 := (by decide); omega), tp676107, x676029, x676030, x676031, (opP_of (gB_w bo676077' (by decide) (by decide))), (Or.inl (by omega)), (show nzK p675841 by unfold nzK; omega), ⟨by omega, Or.inr (by omega)⟩, (fun R c1 c2 c3 c4 c5 => c3 o675876 xt675912 o675899 o675900 o675901 o675902 xt675969 o675957 o675958 o675959 o675960 o675992 xt676034 o676016 o676017 o676018 o676019 o676021 o676022 o676023 o676024 o676077 bo675876 ht675878 r675880 bo675899 bo675900 bo675901 ht675911 bo675957 bo675958 bo675959 ht675968 bo675992 ht675994 r675996 bo676016 bo676017 bo676018 bo676023 bo676024 ht676033 r676061 bo676077 ht676080 r676200)⟩
    · have r676201 : o675992.toInt ≠ 0 := gj_neq hc675995 (show Int32.toInt 0 = 0 by decide)
      have bo675992' : gB o675992 1 1 := ⟨by omega, by omega⟩
      refine G_aload_n 0 dr_cX14_row_50 rfl ?_
      refine Gw_callV (As := []) (gV_ok D I) (cp_672530_Reader_next l hl0 D I P675970 F675971 q675836 q675838 p675839 o675957 o675958 o675959 o675960 o675900 q675961 p675846 p675847 p675848 qo675849 qo675850 p675851 f675859 hm675976 hm675978 he675974 he675975 bp675839 bo675957 bo675958 bo675959 bo675900 bp675846 bp675847 bp675848 bp675851 bf675859 (by omega) (hsb675979 _ x675862) (hsb675979 _ x675863)) dr_cX14_row_51 ⟨wr_7_215, wr_1_32, wr_7_218, by decide, rfl, (Nat.le_of_ble_eq_true rfl), (Nat.le_of_ble_eq_true rfl)⟩ wr_7_217 wr_p_75 hm675976 he675974 rfl (show (16 * (o675957.toInt - p675840.toInt) + 0 : Int).toNat + 0 + ((16 * (p675839.toInt - o675957.toInt)).toNat) ≤ ((16 * (p675839.toInt - p675840.toInt)).toNat + 9) by first | omega | decide) (show (160 * (o675957.toInt - p675840.toInt) + 0 : Int).toNat + 0 + ((160 * (p675839.toInt - o675957.toInt)).toNat) ≤ ((160 * (p675839.toInt - p675840.toInt)).toNat + 71) by first | omega | decide) (Nat.le_of_ble_eq_true rfl) (fun r676205 w676206 dc676202 ds676203 hp676204 => ?_) (fun _ _ _ _ _ z => z.elim)
      obtain ⟨P676219, F676220, o676207, o676208, o676209, o676210, q676211, xt676218, rfl, rfl, hsb676221, hfr676222, he676223, he676224, hdc, hds, bo676207, bo676208, bo676209, x676212, x676213, x676214, x676215, x676216, ht676217⟩ := hp676204
      have hm676225 : q675836 ∈ P676219 := hsb676221 q675836 hm675976
      have hm676226 : q675837 ∈ P676219 := hsb676221 q675837 hm675977
      have hm676227 : q675838 ∈ P676219 := hsb676221 q675838 hm675978
      have hsb676228 : rSub P675834 P676219 := rSub_tr hsb675979 hsb676221
      have he676229 : F676220 q675837 = .inr (20, [.int p675852, .int p675843, .int p675854, .int p675855, .int p675856, .int p675857, .int p675858]) := (hfr676222 q675837 hm675977 (nm_c (rn_oo he675980 he675974 (by decide)) nm_n)).trans he675980
      have hfr676230 : rFr [q675837, q675836] P675834 F675835 F676220 := rFr_call hsb675979 hfr675981 hfr676222 (fun b hb hn => ⟨(nm_c (fun e => hn (e ▸ List.mem_cons_self)) (nm_c (fun e => hn (e ▸ (List.mem_cons_of_mem _ List.mem_cons_self))) nm_n)), (nm_c (fun e => hn (e ▸ (List.mem_cons_of_mem _ List.mem_cons_self))) nm_n)⟩)
      have bo676210 := gB_any o676210
      change G _ _ _ _ _ _ _ _ _ _ _
      refine G_widen (cs' := (16 * (o675957.toInt - p675840.toInt) + 0 : Int).toNat + 0 + ((16 * (o676207.toInt - o675957.toInt)).toNat)) (sl' := (160 * (o675957.toInt - p675840.toInt) + 0 : Int).toNat + 0 + ((160 * (o676207.toInt - o675957.toInt)).toNat)) (by omega) (by omega) ?_
      have x676231 : p675840.toInt ≤ o676207.toInt := by omega
      have x676232 : p675840.toInt + 2 ≤ o675957.toInt := by have q := (prQ_le x675985 (isK_1 x675993 (by omega))); omega
      have x676233 : p675840.toInt + 2 ≤ o676207.toInt := by omega
      have x676234 : prQ o676208 (p675840.toInt + 3) o676207 := prP_q x676213 x676232 (by omega)
      refine G_widen (cs' := (16 * (o676207.toInt - p675840.toInt) + 0 : Int).toNat) (sl' := (160 * (o676207.toInt - p675840.toInt) + 0 : Int).toNat) (by omega) (by omega) ?_
      clear he675974 he675975 hm675976 hm675977 hm675978 hsb675979 he675980 hfr675981 hsb676221 hfr676222; try clear r675990; try clear w675991; try clear dc675987; try clear ds675988; try clear hp675989; try clear r676205; try clear w676206; try clear dc676202; try clear ds676203; try clear hp676204
      refine G_aload_n 1 dr_cX14_row_54 rfl ?_
      refine G_bipush 20 dr_cX14_row_55 (by decide +kernel) ?_
      refine Gp_put 0 hm676226 he676229 dr_cX14_row_57 (gk_X15 D I) (Nat.le_of_ble_eq_true rfl) wr_9_179 rfl rfl rfl (Nat.le_of_ble_eq_true rfl) (fun F676235 e676236 n676237 => ?_)
      have he676238 : F676235 q675836 = .inr (19, [.ref q675838, .int p675839, .int o676207, .int o676208, .int o676209, .int o676210, .int o675958, .ref q676211, .int p675846, .int p675847, .int p675848, .ref qo675849, .ref qo675850, .int p675851]) := (n676237 q675836 (rn_oo he676223 he676229 (by decide))).trans he676223
      have he676239 : F676235 q675838 = .inl (I .byte, 8192, .inl f675859) := (n676237 q675838 (rn_ao he676224 he676229)).trans he676224
      have he676240 : F676235 q675837 = .inr (20, [.int 20, .int p675843, .int p675854, .int p675855, .int p675856, .int p675857, .int p675858]) := e676236
      have hfr676241 : rFr [q675837, q675836] P675834 F675835 F676235 := rFr_put' List.mem_cons_self hfr676230 n676237
      have tp676242 : tP I P676219 F676235 o676208 q676211 qo675850 qo675849 xt676218 := tP_put x676215 he676229 (by decide) n676237
      exact G_vretA dr_cX14_row_60 rfl (show (16 * (o676207.toInt - p675840.toInt) + 0 : Int).toNat ≤ ((16 * (p675839.toInt - p675840.toInt)).toNat + 9) by omega) (show (160 * (o676207.toInt - p675840.toInt) + 0 : Int).toNat ≤ ((160 * (p675839.toInt - p675840.toInt)).toNat + 71) by omega) ⟨P676219, F676235, o676207, o676208, o676209, o676210, o675958, q676211, 20, p675843, p675854, p675855, p675857, p675858, xt676218, rfl, rfl, hsb676228, hfr676241, he676240, he676238, he676239, (by omega), (by omega), bo676207, bo676208, bo676209, bo675958, (gB_w (gBl (show Int32.toInt 20 = 20 by decide)) (by decide) (by decide)), (gB_w bv675925 (by decide) (by decide)), bp675857, bp675858, (by have qa0 : Int32.toInt 20 = 20 := (by decide); omega), (prP_le x676213 (by omega)), (by have qa0 : Int32.toInt 20 = 20 := (by decide); omega), tp676242, x676216, x675866, x675867, (Or.inr (by decide)), (Or.inr (Or.inl (by decide))), (show nzK p675841 by unfold nzK; omega), ⟨by omega, Or.inr (by omega)⟩, (fun R c1 c2 c3 c4 c5 => c4 o675876 xt675912 o675899 o675900 o675901 o675902 xt675969 o675957 o675958 o675959 o675960 o675992 xt676218 o676207 o676208 o676209 o676210 bo675876 ht675878 r675880 bo675899 bo675900 bo675901 ht675911 bo675957 bo675958 bo675959 ht675968 bo675992 ht675994 r676201 bo676207 bo676208 bo676209 ht676217)⟩
  · have r676243 : o675876.toInt ≠ 0 := gj_neq hc675879 (show Int32.toInt 0 = 0 by decide)
    have bo675876' : gB o675876 1 1 := ⟨by omega, by omega⟩
    refine G_aload_n 0 dr_cX14_row_9 rfl ?_
    refine Gw_callV (As := []) (gV_ok D I) (cp_672530_Reader_next l hl0 D I P675834 F675835 q675836 q675838 p675839 p675840 p675841 p675842 p675843 p675844 qo675845 p675846 p675847 p675848 qo675849 qo675850 p675851 f675859 hmq675836 hmq675838 heq675836 heq675838 bp675839 bp675840 bp675841 bp675842 bp675844 bp675846 bp675847 bp675848 bp675851 bf675859 (by omega) x675862 x675863) dr_cX14_row_10 ⟨wr_7_215, wr_1_32, wr_7_218, by decide, rfl, (Nat.le_of_ble_eq_true rfl), (Nat.le_of_ble_eq_true rfl)⟩ wr_7_217 wr_p_75 hmq675836 heq675836 rfl (show 0 + ((16 * (p675839.toInt - p675840.toInt)).toNat) ≤ ((16 * (p675839.toInt - p675840.toInt)).toNat + 9) by first | omega | decide) (show 0 + ((160 * (p675839.toInt - p675840.toInt)).toNat) ≤ ((160 * (p675839.toInt - p675840.toInt)).toNat + 71) by first | omega | decide) (Nat.le_of_ble_eq_true rfl) (fun r676247 w676248 dc676244 ds676245 hp676246 => ?_) (fun _ _ _ _ _ z => z.elim)
    obtain ⟨P676261, F676262, o676249, o676250, o676251, o676252, q676253, xt676260, rfl, rfl, hsb676263, hfr676264, he676265, he676266, hdc, hds, bo676249, bo676250, bo676251, x676254, x676255, x676256, x676257, x676258, ht676259⟩ := hp676246
    have hm676267 : q675836 ∈ P676261 := hsb676263 q675836 hmq675836
    have hm676268 : q675837 ∈ P676261 := hsb676263 q675837 hmq675837
    have hm676269 : q675838 ∈ P676261 := hsb676263 q675838 hmq675838
    have hsb676270 : rSub P675834 P676261 := rSub_tr (rSub_rf (P := P675834)) hsb676263
    have he676271 : F676262 q675837 = .inr (20, [.int p675852, .int p675853, .int p675854, .int p675855, .int p675856, .int p675857, .int p675858]) := (hfr676264 q675837 hmq675837 (nm_c (rn_oo heq675837 heq675836 (by decide)) nm_n)).trans heq675837
    have hfr676272 : rFr [q675836] P675834 F675835 F676262 := rFr_call (rSub_rf (P := P675834)) (rFr_rf (W := []) (P := P675834) (F := F675835)) hfr676264 (fun b hb hn => ⟨nm_n, (nm_c (fun e => hn (e ▸ List.mem_cons_self)) nm_n)⟩)
    have bo676252 := gB_any o676252
    change G _ _ _ _ _ _ _ _ _ _ _
    refine G_widen (cs' := (16 * (o676249.toInt - p675840.toInt)).toNat) (sl' := (160 * (o676249.toInt - p675840.toInt)).toNat) (by omega) (by omega) ?_
    have x676273 : p675840.toInt ≤ o676249.toInt := by omega
    have x676274 : p675840.toInt + 0 ≤ p675840.toInt := by omega
    have x676275 : p675840.toInt + 0 ≤ o676249.toInt := by omega
    have x676276 : prQ o676250 (p675840.toInt + 1) o676249 := prP_q x676255 x676274 (by omega)
    refine G_widen (cs' := (16 * (o676249.toInt - p675840.toInt) + 0 : Int).toNat) (sl' := (160 * (o676249.toInt - p675840.toInt) + 0 : Int).toNat) (by omega) (by omega) ?_
    clear hsb676263 hfr676264; try clear r675874; try clear w675875; try clear dc675871; try clear ds675872; try clear hp675873; try clear r676247; try clear w676248; try clear dc676244; try clear ds676245; try clear hp676246
    refine G_aload_n 1 dr_cX14_row_13 rfl ?_
    refine G_bipush 22 dr_cX14_row_14 (by decide +kernel) ?_
    refine Gp_put 0 hm676268 he676271 dr_cX14_row_16 (gk_X15 D I) (Nat.le_of_ble_eq_true rfl) wr_9_179 rfl rfl rfl (Nat.le_of_ble_eq_true rfl) (fun F676277 e676278 n676279 => ?_)
    have he676280 : F676277 q675836 = .inr (19, [.ref q675838, .int p675839, .int o676249, .int o676250, .int o676251, .int o676252, .int p675841, .ref q676253, .int p675846, .int p675847, .int p675848, .ref qo675849, .ref qo675850, .int p675851]) := (n676279 q675836 (rn_oo he676265 he676271 (by decide))).trans he676265
    have he676281 : F676277 q675838 = .inl (I .byte, 8192, .inl f675859) := (n676279 q675838 (rn_ao he676266 he676271)).trans he676266
    have he676282 : F676277 q675837 = .inr (20, [.int 22, .int p675853, .int p675854, .int p675855, .int p675856, .int p675857, .int p675858]) := e676278
    have hfr676283 : rFr [q675837, q675836] P675834 F675835 F676277 := rFr_put hfr676272 n676279
    have tp676284 : tP I P676261 F676277 o676250 q676253 qo675850 qo675849 xt676260 := tP_put x676257 he676271 (by decide) n676279
    refine G_aload_n 0 dr_cX14_row_19 rfl ?_
    refine G_aload_n 1 dr_cX14_row_20 rfl ?_
    refine G_iconst 0 dr_cX14_row_21 (by decide +kernel) ?_
    refine Gw_callV (As := [.ref q675837, .int 0]) (gV_ok D I) (cp_674865_Reader_operand l hl0 D I P676261 F676277 q675836 q675837 q675838 0 p675839 o676249 o676250 o676251 o676252 p675841 q676253 p675846 p675847 p675848 qo675849 qo675850 p675851 22 p675853 p675854 p675855 p675856 p675857 p675858 f675859 xt676260 hm676267 hm676268 hm676269 he676280 he676282 he676281 (gB_w (gBl (show Int32.toInt 0 = 0 by decide)) (by decide) (by decide)) bp675839 bo676249 bo676250 bo676251 bp675841 bp675846 bp675847 bp675848 bp675851 (gB_w (gBl (show Int32.toInt 22 = 22 by decide)) (by decide) (by decide)) bp675853 bp675856 bp675857 bp675858 bf675859 (by have qa0 : Int32.toInt 22 = 22 := (by decide); omega) (hsb676270 _ x675862) (hsb676270 _ x675863) tp676284 x676258 x675866 x675867 (Or.inr (by decide))) dr_cX14_row_22 ⟨wr_10_89, wr_1_32, wr_10_92, by decide, rfl, (Nat.le_of_ble_eq_true rfl), (Nat.le_of_ble_eq_true rfl)⟩ wr_10_91 wr_p_89 hm676267 he676280 rfl (show (16 * (o676249.toInt - p675840.toInt) + 0 : Int).toNat + ((16 * (p675839.toInt - o676249.toInt)).toNat + 1) ≤ ((16 * (p675839.toInt - p675840.toInt)).toNat + 9) by first | omega | decide) (show (160 * (o676249.toInt - p675840.toInt) + 0 : Int).toNat + ((160 * (p675839.toInt - o676249.toInt)).toNat + 7) ≤ ((160 * (p675839.toInt - p675840.toInt)).toNat + 71) by first | omega | decide) (Nat.le_of_ble_eq_true rfl) (fun r676288 w676289 dc676285 ds676286 hp676287 => ?_) (fun _ qx676301 _ dc676299 ds676300 hx => by obtain ⟨P676297, F676298, rfl, rfl, hsb676290, hfr676291, hq676292, hqn676293, hwr676294, hdc676295, hds676296, x676302, ht676303⟩ := hx; exact GT_outA rfl (show (16 * (o676249.toInt - p675840.toInt) + 0 : Int).toNat + dc676299 ≤ ((16 * (p675839.toInt - p675840.toInt)).toNat + 9) by omega) (show (160 * (o676249.toInt - p675840.toInt) + 0 : Int).toNat + ds676300 ≤ ((160 * (p675839.toInt - p675840.toInt)).toNat + 71) by omega) ⟨P676297, F676298, rfl, rfl, (rSub_tr hsb676270 hsb676290), (show rFr [q675837, q675836] P675834 F675835 F676298 from rFr_call hsb676270 hfr676283 hfr676291 (fun b hb hn => ⟨(nm_c (fun e => hn (e ▸ List.mem_cons_self)) (nm_c (fun e => hn (e ▸ (List.mem_cons_of_mem _ List.mem_cons_self))) nm_n)), nm_n⟩)), hq676292, (fun z => hqn676293 (hsb676270 _ z)), hwr676294, (by omega), (by omega), ⟨22, p675853, p675854, p675855, p675856, p675857, p675858, ((hfr676291 q675837 hm676268 nm_n).trans he676282), (gB_w (gBl (show Int32.toInt 22 = 22 by decide)) (by decide) (by decide)), bp675853, bp675856, bp675857, bp675858, (Or.inr (by decide)), x675866, x675867⟩, (fun R c1 c2 c3 c4 c5 => c5 o675876 xt676260 o676249 o676250 o676251 o676252 bo675876 ht675878 r676243 bo676249 bo676250 bo676251 ht676259 ht676303)⟩)
    obtain ⟨P676323, F676324, o676304, o676305, o676306, o676307, q676308, o676309, o676310, o676311, o676312, xt676322, rfl, rfl, hsb676325, hfr676326, he676327, he676328, he676329, hdc, hds, bo676304, bo676305, bo676306, bo676311, bo676312, x676313, x676314, x676315, x676316, x676317, x676318, x676319, x676320, ht676321⟩ := hp676287
    have hm676330 : q675836 ∈ P676323 := hsb676325 q675836 hm676267
    have hm676331 : q675837 ∈ P676323 := hsb676325 q675837 hm676268
    have hm676332 : q675838 ∈ P676323 := hsb676325 q675838 hm676269
    have hsb676333 : rSub P675834 P676323 := rSub_tr hsb676270 hsb676325
    have hfr676334 : rFr [q675837, q675836] P675834 F675835 F676324 := rFr_call hsb676270 hfr676283 hfr676326 (fun b hb hn => ⟨(nm_c (fun e => hn (e ▸ List.mem_cons_self)) (nm_c (fun e => hn (e ▸ (List.mem_cons_of_mem _ List.mem_cons_self))) nm_n)), (nm_c (fun e => hn (e ▸ List.mem_cons_self)) (nm_c (fun e => hn (e ▸ (List.mem_cons_of_mem _ List.mem_cons_self))) nm_n))⟩)
    have bo676307 := gB_any o676307
    have bo676309 := gB_any o676309
    have bo676310 := gB_any o676310
    change G _ _ _ _ _ _ _ _ _ _ _
    refine G_widen (cs' := (16 * (o676249.toInt - p675840.toInt) + 0 : Int).toNat + ((16 * (o676304.toInt - o676249.toInt)).toNat)) (sl' := (160 * (o676249.toInt - p675840.toInt) + 0 : Int).toNat + ((160 * (o676304.toInt - o676249.toInt)).toNat)) (by omega) (by omega) ?_
    have x676335 : p675840.toInt + 1 ≤ o676249.toInt := by have q := (prQ_le x676276 x676320); omega
    have x676336 : p675840.toInt + 1 ≤ o676304.toInt := by omega
    have x676337 : prQ o676305 (p675840.toInt + 2) o676304 := prP_q x676314 x676335 (by omega)
    exact G_vretA dr_cX14_row_25 rfl (show (16 * (o676249.toInt - p675840.toInt) + 0 : Int).toNat + ((16 * (o676304.toInt - o676249.toInt)).toNat) ≤ ((16 * (p675839.toInt - p675840.toInt)).toNat + 9) by omega) (show (160 * (o676249.toInt - p675840.toInt) + 0 : Int).toNat + ((160 * (o676304.toInt - o676249.toInt)).toNat) ≤ ((160 * (p675839.toInt - p675840.toInt)).toNat + 71) by omega) ⟨P676323, F676324, o676304, o676305, o676306, o676307, o676250, q676308, 22, p675853, o676309, o676310, o676311, o676312, xt676322, rfl, rfl, hsb676333, hfr676334, he676327, he676328, he676329, (by omega), (by omega), bo676304, bo676305, bo676306, bo676250, (gB_w (gBl (show Int32.toInt 22 = 22 by decide)) (by decide) (by decide)), bp675853, bo676311, bo676312, (by have qa0 : Int32.toInt 22 = 22 := (by decide); omega), (prP_le x676314 (by omega)), (by have qa0 : Int32.toInt 22 = 22 := (by decide); omega), x676316, x676317, x676318, x676319, (Or.inr (by decide)), (Or.inr (Or.inr (by decide))), (isK_1 x675877 (by omega)), ⟨by omega, x676337⟩, (fun R c1 c2 c3 c4 c5 => c5 o675876 xt676260 o676249 o676250 o676251 o676252 xt676322 o676304 o676305 o676306 o676307 o676309 o676310 o676311 o676312 bo675876 ht675878 r676243 bo676249 bo676250 bo676251 ht676259 bo676304 bo676305 bo676306 bo676311 bo676312 ht676321)⟩
/- tr_RReader_end: a.0...at, a.0...kind, a.0...place, a.0...value, a.0...before, a.0...goalN, a.1...first, a.1...second, a.0.goalPlaces.#, a.0.goalPlaces.[], a.0.goals.#, a.0.goals.[], a.1.end...op, a.1.end...a, a.1.end...b, a.1.end...regA, a.1.end...regB -/
def tr_RReader_end (a0_n : Int32) (a0_at : Int32) (a0_kind : Int32) (a0_value : Int32) (a0_goalN : Int32) (a0_t_v : Nat → Int32) (p : Nat → Int32) (p2 : Nat) (p3 : Nat → Int32) (p4 : Nat) (a1_end_b : Int32) (a1_end_regB : Int32) (xt : gTx) (o1 : Int32) (o2 : Int32) (o3 : Int32) (o4 : Int32) (o5 : Int32) (o6 : Int32) (o7 : Int32) (o8 : Int32) (o9 : Nat) (o10 : Nat → Int32) (o11 : Nat) (o12 : Nat → Int32) (o13 : Int32) (o14 : Int32) (o15 : Int32) (o16 : Int32) (o17 : Int32) (o18 : gTx) : Prop := ∀ R : (Int32) → (Int32) → (Int32) → (Int32) → (Int32) → (Int32) → (Int32) → (Int32) → (Nat) → (Nat → Int32) → (Nat) → (Nat → Int32) → (Int32) → (Int32) → (Int32) → (Int32) → (Int32) → (gTx) → Prop,
  (∀ (x1 : Int32) (x2 : Int32) (x3 : Int32) (x4 : gTx) (x5 : Int32) (x6 : Int32) (x7 : Int32) (x8 : Int32) (x9 : gTx) (x10 : Int32) (x11 : Int32) (x12 : Int32) (x13 : Int32) (x14 : Int32) (x15 : Int32) (x16 : Int32) (x17 : Int32), gB x1 0 1 → tr_RReader_is sb_44 a0_kind xt x1 → x1.toInt = 0 → gB x2 0 1 → tr_RReader_is sb_45 a0_kind xt x2 → x2.toInt = 0 → gB x3 0 1 → tr_RReader_is sb_46 a0_kind xt x3 → x3.toInt ≠ 0 → gB x5 0 8192 → gB x6 0 6 → gB x7 0 8192 → tr_RReader_next a0_n a0_at a0_kind a0_value a0_t_v x5 x6 x7 x8 x4 → gB x10 0 8192 → gB x11 0 6 → gB x12 0 8192 → gB x16 0 1 → gB x17 0 1 → tr_RReader_operand (0 : Int32) a0_n x5 x6 x8 (0 : Int32) a1_end_b (0 : Int32) a1_end_regB a0_t_v x10 x11 x12 x13 x14 x15 x16 x17 x9 → R x10 x11 x12 x13 x6 a0_goalN (0 : Int32) (0 : Int32) p2 p p4 p3 (32 : Int32) x14 x15 x16 x17 x9) →
  (∀ (x1 : Int32) (x2 : Int32) (x3 : gTx) (x4 : Int32) (x5 : Int32) (x6 : Int32) (x7 : Int32) (x8 : gTx) (x9 : Int32) (x10 : Int32) (x11 : Int32) (x12 : Int32) (x13 : Int32) (x14 : Int32) (x15 : Int32) (x16 : Int32) (x17 : gTx) (x18 : Int32) (x19 : Int32) (x20 : Int32) (x21 : Int32) (x22 : Int32) (x23 : Nat) (x24 : Nat → Int32) (x25 : Nat) (x26 : Nat → Int32) (x27 : gTx) (x28 : Int32) (x29 : Int32) (x30 : Int32) (x31 : Int32) (x32 : Int32) (x33 : Nat) (x34 : Nat → Int32) (x35 : Nat) (x36 : Nat → Int32), gB x1 0 1 → tr_RReader_is sb_44 a0_kind xt x1 → x1.toInt = 0 → gB x2 0 1 → tr_RReader_is sb_45 a0_kind xt x2 → x2.toInt ≠ 0 → gB x4 0 8192 → gB x5 0 6 → gB x6 0 8192 → tr_RReader_next a0_n a0_at a0_kind a0_value a0_t_v x4 x5 x6 x7 x3 → gB x9 0 8192 → gB x10 0 6 → gB x11 0 8192 → gB x15 0 1 → gB x16 0 1 → tr_RReader_operand (0 : Int32) a0_n x4 x5 x7 (0 : Int32) a1_end_b (0 : Int32) a1_end_regB a0_t_v x9 x10 x11 x12 x13 x14 x15 x16 x8 → gB x18 0 8192 → gB x19 0 6 → gB x20 0 8192 → gB x22 1 1000000 → tr_RReader_goal a0_n x9 x10 x11 x12 a0_goalN a0_t_v p p2 p3 p4 x18 x19 x20 x21 x22 x23 x24 x25 x26 x17 → gB x28 0 8192 → gB x29 0 6 → gB x30 0 8192 → gB x32 1 1000000 → tr_RReader_goal a0_n x18 x19 x20 x21 x22 a0_t_v x24 x23 x26 x25 x28 x29 x30 x31 x32 x33 x34 x35 x36 x27 → R x28 x29 x30 x31 x19 x32 x12 x21 x33 x34 x35 x36 (31 : Int32) x13 x14 x15 x16 x27) →
  (∀ (x1 : Int32) (x2 : gTx) (x3 : Int32) (x4 : Int32) (x5 : Int32) (x6 : Int32) (x7 : gTx) (x8 : Int32) (x9 : Int32) (x10 : Int32) (x11 : Int32) (x12 : Int32) (x13 : Nat) (x14 : Nat → Int32) (x15 : Nat) (x16 : Nat → Int32), gB x1 0 1 → tr_RReader_is sb_44 a0_kind xt x1 → x1.toInt ≠ 0 → gB x3 0 8192 → gB x4 0 6 → gB x5 0 8192 → tr_RReader_next a0_n a0_at a0_kind a0_value a0_t_v x3 x4 x5 x6 x2 → gB x8 0 8192 → gB x9 0 6 → gB x10 0 8192 → gB x12 1 1000000 → tr_RReader_goal a0_n x3 x4 x5 x6 a0_goalN a0_t_v p p2 p3 p4 x8 x9 x10 x11 x12 x13 x14 x15 x16 x7 → R x8 x9 x10 x11 x4 x12 x6 x6 x13 x14 x15 x16 (30 : Int32) (0 : Int32) a1_end_b (0 : Int32) a1_end_regB x7) →
  R o1 o2 o3 o4 o5 o6 o7 o8 o9 o10 o11 o12 o13 o14 o15 o16 o17 o18
/- tx_RReader_end: throws -/
def tx_RReader_end (a0_n : Int32) (a0_at : Int32) (a0_kind : Int32) (a0_value : Int32) (a0_goalN : Int32) (a0_t_v : Nat → Int32) (p : Nat → Int32) (p2 : Nat) (p3 : Nat → Int32) (p4 : Nat) (a1_end_b : Int32) (a1_end_regB : Int32) (xt : gTx) : Prop := ∀ R : Prop,
  (∀ (x1 : Int32) (x2 : Int32) (x3 : Int32), gB x1 0 1 → tr_RReader_is sb_44 a0_kind xt x1 → x1.toInt = 0 → gB x2 0 1 → tr_RReader_is sb_45 a0_kind xt x2 → x2.toInt = 0 → gB x3 0 1 → tr_RReader_is sb_46 a0_kind xt x3 → x3.toInt = 0 → R) →
  (∀ (x1 : Int32) (x2 : Int32) (x3 : Int32) (x4 : gTx) (x5 : Int32) (x6 : Int32) (x7 : Int32) (x8 : Int32), gB x1 0 1 → tr_RReader_is sb_44 a0_kind xt x1 → x1.toInt = 0 → gB x2 0 1 → tr_RReader_is sb_45 a0_kind xt x2 → x2.toInt = 0 → gB x3 0 1 → tr_RReader_is sb_46 a0_kind xt x3 → x3.toInt ≠ 0 → gB x5 0 8192 → gB x6 0 6 → gB x7 0 8192 → tr_RReader_next a0_n a0_at a0_kind a0_value a0_t_v x5 x6 x7 x8 x4 → tx_RReader_operand x6 → R) →
  (∀ (x1 : Int32) (x2 : Int32) (x3 : gTx) (x4 : Int32) (x5 : Int32) (x6 : Int32) (x7 : Int32), gB x1 0 1 → tr_RReader_is sb_44 a0_kind xt x1 → x1.toInt = 0 → gB x2 0 1 → tr_RReader_is sb_45 a0_kind xt x2 → x2.toInt ≠ 0 → gB x4 0 8192 → gB x5 0 6 → gB x6 0 8192 → tr_RReader_next a0_n a0_at a0_kind a0_value a0_t_v x4 x5 x6 x7 x3 → tx_RReader_operand x5 → R) →
  (∀ (x1 : Int32) (x2 : Int32) (x3 : gTx) (x4 : Int32) (x5 : Int32) (x6 : Int32) (x7 : Int32) (x8 : gTx) (x9 : Int32) (x10 : Int32) (x11 : Int32) (x12 : Int32) (x13 : Int32) (x14 : Int32) (x15 : Int32) (x16 : Int32), gB x1 0 1 → tr_RReader_is sb_44 a0_kind xt x1 → x1.toInt = 0 → gB x2 0 1 → tr_RReader_is sb_45 a0_kind xt x2 → x2.toInt ≠ 0 → gB x4 0 8192 → gB x5 0 6 → gB x6 0 8192 → tr_RReader_next a0_n a0_at a0_kind a0_value a0_t_v x4 x5 x6 x7 x3 → gB x9 0 8192 → gB x10 0 6 → gB x11 0 8192 → gB x15 0 1 → gB x16 0 1 → tr_RReader_operand (0 : Int32) a0_n x4 x5 x7 (0 : Int32) a1_end_b (0 : Int32) a1_end_regB a0_t_v x9 x10 x11 x12 x13 x14 x15 x16 x8 → tx_RReader_goal x10 a0_goalN p p2 p3 p4 → R) →
  (∀ (x1 : Int32) (x2 : Int32) (x3 : gTx) (x4 : Int32) (x5 : Int32) (x6 : Int32) (x7 : Int32) (x8 : gTx) (x9 : Int32) (x10 : Int32) (x11 : Int32) (x12 : Int32) (x13 : Int32) (x14 : Int32) (x15 : Int32) (x16 : Int32) (x17 : gTx) (x18 : Int32) (x19 : Int32) (x20 : Int32) (x21 : Int32) (x22 : Int32) (x23 : Nat) (x24 : Nat → Int32) (x25 : Nat) (x26 : Nat → Int32), gB x1 0 1 → tr_RReader_is sb_44 a0_kind xt x1 → x1.toInt = 0 → gB x2 0 1 → tr_RReader_is sb_45 a0_kind xt x2 → x2.toInt ≠ 0 → gB x4 0 8192 → gB x5 0 6 → gB x6 0 8192 → tr_RReader_next a0_n a0_at a0_kind a0_value a0_t_v x4 x5 x6 x7 x3 → gB x9 0 8192 → gB x10 0 6 → gB x11 0 8192 → gB x15 0 1 → gB x16 0 1 → tr_RReader_operand (0 : Int32) a0_n x4 x5 x7 (0 : Int32) a1_end_b (0 : Int32) a1_end_regB a0_t_v x9 x10 x11 x12 x13 x14 x15 x16 x8 → gB x18 0 8192 → gB x19 0 6 → gB x20 0 8192 → gB x22 1 1000000 → tr_RReader_goal a0_n x9 x10 x11 x12 a0_goalN a0_t_v p p2 p3 p4 x18 x19 x20 x21 x22 x23 x24 x25 x26 x17 → tx_RReader_goal x19 x22 x24 x23 x26 x25 → R) →
  (∀ (x1 : Int32) (x2 : gTx) (x3 : Int32) (x4 : Int32) (x5 : Int32) (x6 : Int32), gB x1 0 1 → tr_RReader_is sb_44 a0_kind xt x1 → x1.toInt ≠ 0 → gB x3 0 8192 → gB x4 0 6 → gB x5 0 8192 → tr_RReader_next a0_n a0_at a0_kind a0_value a0_t_v x3 x4 x5 x6 x2 → tx_RReader_goal x4 a0_goalN p p2 p3 p4 → R) →
  R
