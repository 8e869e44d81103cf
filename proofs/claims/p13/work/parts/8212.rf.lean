theorem dr_cX14_breaks_0 : decode cX14_breaks 0 = .ok (.aload_n 0, 1) := by decide +kernel
theorem dr_cX14_breaks_1 : decode cX14_breaks 1 = .ok (.getfield 17, 3) := by decide +kernel
theorem wr_9_44 : (Jvm.Cond.fieldLink "SpillForgeModel$Reader" (17 : Nat) "SpillForgeModel$Reader" "rulePlace" "I") ∈ gw := gw_9 44 rfl rfl
theorem dr_cX14_breaks_4 : decode cX14_breaks 4 = .ok (.ifCond .lt 27, 3) := by decide +kernel
theorem dr_cX14_breaks_31 : decode cX14_breaks 31 = .ok (.aload_n 0, 1) := by decide +kernel
theorem dr_cX14_breaks_32 : decode cX14_breaks 32 = .ok (.iload_n 2, 1) := by decide +kernel
theorem dr_cX14_breaks_33 : decode cX14_breaks 33 = .ok (.putfield 17, 3) := by decide +kernel
theorem dr_cX14_breaks_36 : decode cX14_breaks 36 = .ok (.aload_n 0, 1) := by decide +kernel
theorem dr_cX14_breaks_37 : decode cX14_breaks 37 = .ok (.iload_n 1, 1) := by decide +kernel
theorem dr_cX14_breaks_38 : decode cX14_breaks 38 = .ok (.putfield 140, 3) := by decide +kernel
theorem wr_9_46 : (Jvm.Cond.fieldLink "SpillForgeModel$Reader" (140 : Nat) "SpillForgeModel$Reader" "rule" "I") ∈ gw := gw_9 46 rfl rfl
theorem dr_cX14_breaks_41 : decode cX14_breaks 41 = .ok (.return_, 1) := by decide +kernel
theorem dr_cX14_breaks_7 : decode cX14_breaks 7 = .ok (.iload_n 2, 1) := by decide +kernel
theorem dr_cX14_breaks_8 : decode cX14_breaks 8 = .ok (.aload_n 0, 1) := by decide +kernel
theorem dr_cX14_breaks_9 : decode cX14_breaks 9 = .ok (.getfield 17, 3) := by decide +kernel
theorem dr_cX14_breaks_12 : decode cX14_breaks 12 = .ok (.if_icmp .lt 19, 3) := by decide +kernel
theorem dr_cX14_breaks_15 : decode cX14_breaks 15 = .ok (.iload_n 2, 1) := by decide +kernel
theorem dr_cX14_breaks_16 : decode cX14_breaks 16 = .ok (.aload_n 0, 1) := by decide +kernel
theorem dr_cX14_breaks_17 : decode cX14_breaks 17 = .ok (.getfield 17, 3) := by decide +kernel
theorem dr_cX14_breaks_20 : decode cX14_breaks 20 = .ok (.if_icmp .ne 21, 3) := by decide +kernel
theorem dr_cX14_breaks_23 : decode cX14_breaks 23 = .ok (.iload_n 1, 1) := by decide +kernel
theorem dr_cX14_breaks_24 : decode cX14_breaks 24 = .ok (.aload_n 0, 1) := by decide +kernel
theorem dr_cX14_breaks_25 : decode cX14_breaks 25 = .ok (.getfield 140, 3) := by decide +kernel
theorem dr_cX14_breaks_28 : decode cX14_breaks 28 = .ok (.if_icmp .ge 13, 3) := by decide +kernel
theorem dr_cX14_operand_0 : decode cX14_operand 0 = .ok (.aload_n 0, 1) := by decide +kernel
theorem dr_cX14_operand_1 : decode cX14_operand 1 = .ok (.getfield 38, 3) := by decide +kernel
theorem dr_cX14_operand_4 : decode cX14_operand 4 = .ok (.iconst 2, 1) := by decide +kernel
theorem dr_cX14_operand_5 : decode cX14_operand 5 = .ok (.if_icmp .ne 7, 3) := by decide +kernel
theorem dr_cX14_operand_12 : decode cX14_operand 12 = .ok (.iconst 0, 1) := by decide +kernel
theorem dr_cX14_operand_13 : decode cX14_operand 13 = .ok (.istore_n 3, 1) := by decide +kernel
theorem dr_cX14_operand_14 : decode cX14_operand 14 = .ok (.iload_n 3, 1) := by decide +kernel
theorem dr_cX14_operand_15 : decode cX14_operand 15 = .ok (.ifCond .ne 16, 3) := by decide +kernel
theorem dr_cX14_operand_18 : decode cX14_operand 18 = .ok (.aload_n 0, 1) := by decide +kernel
theorem dr_cX14_operand_19 : decode cX14_operand 19 = .ok (.getfield 38, 3) := by decide +kernel
theorem dr_cX14_operand_22 : decode cX14_operand 22 = .ok (.iconst 4, 1) := by decide +kernel
theorem dr_cX14_operand_23 : decode cX14_operand 23 = .ok (.if_icmp .eq 8, 3) := by decide +kernel
theorem dr_cX14_operand_31 : decode cX14_operand 31 = .ok (.iload_n 2, 1) := by decide +kernel
theorem dr_cX14_operand_32 : decode cX14_operand 32 = .ok (.ifCond .eq 19, 3) := by decide +kernel
theorem dr_cX14_operand_51 : decode cX14_operand 51 = .ok (.aload_n 1, 1) := by decide +kernel
theorem dr_cX14_operand_52 : decode cX14_operand 52 = .ok (.aload_n 0, 1) := by decide +kernel
theorem dr_cX14_operand_53 : decode cX14_operand 53 = .ok (.getfield 80, 3) := by decide +kernel
theorem dr_cX14_operand_56 : decode cX14_operand 56 = .ok (.putfield 214, 3) := by decide +kernel
theorem wr_9_187 : (Jvm.Cond.fieldLink "SpillForgeModel$Reader" (214 : Nat) "SpillForgeModel$Row" "a" "I") ∈ gw := gw_9 187 rfl rfl
theorem dr_cX14_operand_59 : decode cX14_operand 59 = .ok (.aload_n 1, 1) := by decide +kernel
theorem dr_cX14_operand_60 : decode cX14_operand 60 = .ok (.iload_n 3, 1) := by decide +kernel
theorem dr_cX14_operand_61 : decode cX14_operand 61 = .ok (.putfield 217, 3) := by decide +kernel
theorem wr_9_198 : (Jvm.Cond.fieldLink "SpillForgeModel$Reader" (217 : Nat) "SpillForgeModel$Row" "regA" "Z") ∈ gw := gw_9 198 rfl rfl
theorem dr_cX14_operand_64 : decode cX14_operand 64 = .ok (.aload_n 0, 1) := by decide +kernel
theorem dr_cX14_operand_65 : decode cX14_operand 65 = .ok (.invokevirtual 35, 3) := by decide +kernel
theorem dr_cX14_operand_68 : decode cX14_operand 68 = .ok (.return_, 1) := by decide +kernel
theorem dr_cX14_operand_35 : decode cX14_operand 35 = .ok (.aload_n 1, 1) := by decide +kernel
theorem dr_cX14_operand_36 : decode cX14_operand 36 = .ok (.aload_n 0, 1) := by decide +kernel
theorem dr_cX14_operand_37 : decode cX14_operand 37 = .ok (.getfield 80, 3) := by decide +kernel
theorem dr_cX14_operand_40 : decode cX14_operand 40 = .ok (.putfield 205, 3) := by decide +kernel
theorem wr_9_191 : (Jvm.Cond.fieldLink "SpillForgeModel$Reader" (205 : Nat) "SpillForgeModel$Row" "b" "I") ∈ gw := gw_9 191 rfl rfl
theorem dr_cX14_operand_43 : decode cX14_operand 43 = .ok (.aload_n 1, 1) := by decide +kernel
theorem dr_cX14_operand_44 : decode cX14_operand 44 = .ok (.iload_n 3, 1) := by decide +kernel
theorem dr_cX14_operand_45 : decode cX14_operand 45 = .ok (.putfield 210, 3) := by decide +kernel
theorem wr_9_201 : (Jvm.Cond.fieldLink "SpillForgeModel$Reader" (210 : Nat) "SpillForgeModel$Row" "regB" "Z") ∈ gw := gw_9 201 rfl rfl
theorem dr_cX14_operand_48 : decode cX14_operand 48 = .ok (.goto 16, 3) := by decide +kernel
theorem dr_cX14_operand_26 : decode cX14_operand 26 = .ok (.aload_n 0, 1) := by decide +kernel
theorem dr_cX14_operand_27 : decode cX14_operand 27 = .ok (.invokevirtual 136, 3) := by decide +kernel
theorem dr_cX14_operand_30 : decode cX14_operand 30 = .ok (.athrow, 1) := by decide +kernel
theorem dr_cX14_operand_8 : decode cX14_operand 8 = .ok (.iconst 1, 1) := by decide +kernel
theorem dr_cX14_operand_9 : decode cX14_operand 9 = .ok (.goto 4, 3) := by decide +kernel
theorem dr_cX17_operation_0 : decode cX17_operation 0 = .ok (.ldc 3, 2) := by decide +kernel
theorem dr_cX17_operation_2 : decode cX17_operation 2 = .ok (.new 5, 3) := by decide +kernel
theorem wr_7_43 : (Jvm.Cond.classLink "SpillForgeModel" (5 : Nat) "java/lang/StringBuilder") ∈ gw := gw_7 43 rfl rfl
theorem dr_cX17_operation_5 : decode cX17_operation 5 = .ok (.dup, 1) := by decide +kernel
theorem dr_cX17_operation_6 : decode cX17_operation 6 = .ok (.invokespecial 7, 3) := by decide +kernel
theorem wr_7_45 : (Jvm.Cond.methodLink "SpillForgeModel" (7 : Nat) ({ cls := "java/lang/StringBuilder", name := "<init>", desc := "()V" } : Jvm.MethodName)) ∈ gw := gw_7 45 rfl rfl
theorem dr_cX17_operation_9 : decode cX17_operation 9 = .ok (.ldc 11, 2) := by decide +kernel
theorem dr_cX17_operation_11 : decode cX17_operation 11 = .ok (.invokevirtual 13, 3) := by decide +kernel
theorem wr_10_100 : (Jvm.Cond.methodLink "SpillForgeModel" (13 : Nat) ({ cls := "java/lang/StringBuilder", name := "append", desc := "(Ljava/lang/String;)Ljava/lang/StringBuilder;" } : Jvm.MethodName)) ∈ gw := gw_10 100 rfl rfl
theorem dr_cX17_operation_14 : decode cX17_operation 14 = .ok (.aload_n 0, 1) := by decide +kernel
theorem dr_cX17_operation_15 : decode cX17_operation 15 = .ok (.invokevirtual 13, 3) := by decide +kernel
theorem dr_cX17_operation_18 : decode cX17_operation 18 = .ok (.ldc 11, 2) := by decide +kernel
theorem dr_cX17_operation_20 : decode cX17_operation 20 = .ok (.invokevirtual 13, 3) := by decide +kernel
theorem dr_cX17_operation_23 : decode cX17_operation 23 = .ok (.invokevirtual 17, 3) := by decide +kernel
theorem wr_10_101 : (Jvm.Cond.methodLink "SpillForgeModel" (17 : Nat) ({ cls := "java/lang/StringBuilder", name := "toString", desc := "()Ljava/lang/String;" } : Jvm.MethodName)) ∈ gw := gw_10 101 rfl rfl
theorem dr_cX17_operation_26 : decode cX17_operation 26 = .ok (.invokevirtual 21, 3) := by decide +kernel
theorem wr_10_102 : (Jvm.Cond.methodLink "SpillForgeModel" (21 : Nat) ({ cls := "java/lang/String", name := "indexOf", desc := "(Ljava/lang/String;)I" } : Jvm.MethodName)) ∈ gw := gw_10 102 rfl rfl
theorem dr_cX17_operation_29 : decode cX17_operation 29 = .ok (.istore_n 1, 1) := by decide +kernel
theorem dr_cX17_operation_30 : decode cX17_operation 30 = .ok (.iload_n 1, 1) := by decide +kernel
theorem dr_cX17_operation_31 : decode cX17_operation 31 = .ok (.ifCond .ge 5, 3) := by decide +kernel
theorem dr_cX17_operation_36 : decode cX17_operation 36 = .ok (.iconst 1, 1) := by decide +kernel
theorem dr_cX17_operation_37 : decode cX17_operation 37 = .ok (.istore_n 2, 1) := by decide +kernel
theorem dr_cX17_operation_38 : decode cX17_operation 38 = .ok (.iconst 0, 1) := by decide +kernel
theorem dr_cX17_operation_39 : decode cX17_operation 39 = .ok (.istore_n 3, 1) := by decide +kernel
theorem dr_cX17_operation_40 : decode cX17_operation 40 = .ok (.iload_n 3, 1) := by decide +kernel
theorem dr_cX17_operation_41 : decode cX17_operation 41 = .ok (.iload_n 1, 1) := by decide +kernel
theorem dr_cX17_operation_42 : decode cX17_operation 42 = .ok (.if_icmp .ge 28, 3) := by decide +kernel
theorem dr_cX17_operation_70 : decode cX17_operation 70 = .ok (.iload_n 2, 1) := by decide +kernel
theorem dr_cX17_operation_71 : decode cX17_operation 71 = .ok (.ireturn, 1) := by decide +kernel
theorem dr_cX17_operation_45 : decode cX17_operation 45 = .ok (.iload_n 2, 1) := by decide +kernel
theorem dr_cX17_operation_46 : decode cX17_operation 46 = .ok (.ldc 3, 2) := by decide +kernel
theorem dr_cX17_operation_48 : decode cX17_operation 48 = .ok (.iload_n 3, 1) := by decide +kernel
theorem dr_cX17_operation_49 : decode cX17_operation 49 = .ok (.invokevirtual 27, 3) := by decide +kernel
theorem wr_10_103 : (Jvm.Cond.methodLink "SpillForgeModel" (27 : Nat) ({ cls := "java/lang/String", name := "charAt", desc := "(I)C" } : Jvm.MethodName)) ∈ gw := gw_10 103 rfl rfl
theorem wr_3_70 : (Jvm.Cond.code ({ cls := "java/lang/String", name := "charAt", desc := "(I)C" } : Jvm.MethodName) prog_34_method_56_code (2 : Nat) (Option.some Jvm.ClassFile.FieldType.char)) ∈ gw := gw_3 70 rfl rfl
theorem wr_3_68 : (Jvm.Cond.instanceMethod ({ cls := "java/lang/String", name := "charAt", desc := "(I)C" } : Jvm.MethodName)) ∈ gw := gw_3 68 rfl rfl
theorem wr_3_69 : (Jvm.Cond.selects "java/lang/String" ({ cls := "java/lang/String", name := "charAt", desc := "(I)C" } : Jvm.MethodName) ({ cls := "java/lang/String", name := "charAt", desc := "(I)C" } : Jvm.MethodName)) ∈ gw := gw_3 69 rfl rfl
theorem dr_cX17_operation_52 : decode cX17_operation 52 = .ok (.bipush 32, 2) := by decide +kernel
theorem dr_cX17_operation_54 : decode cX17_operation 54 = .ok (.if_icmp .ne 7, 3) := by decide +kernel
theorem dr_cX17_operation_61 : decode cX17_operation 61 = .ok (.iconst 0, 1) := by decide +kernel
theorem dr_cX17_operation_62 : decode cX17_operation 62 = .ok (.iadd, 1) := by decide +kernel
theorem dr_cX17_operation_63 : decode cX17_operation 63 = .ok (.istore_n 2, 1) := by decide +kernel
theorem dr_cX17_operation_64 : decode cX17_operation 64 = .ok (.iinc 3 1, 3) := by decide +kernel
theorem dr_cX17_operation_67 : decode cX17_operation 67 = .ok (.goto (-27), 3) := by decide +kernel
theorem dr_cX17_operation_57 : decode cX17_operation 57 = .ok (.iconst 1, 1) := by decide +kernel
theorem dr_cX17_operation_58 : decode cX17_operation 58 = .ok (.goto 4, 3) := by decide +kernel
theorem dr_cX17_operation_34 : decode cX17_operation 34 = .ok (.iconst 0, 1) := by decide +kernel
theorem dr_cX17_operation_35 : decode cX17_operation 35 = .ok (.ireturn, 1) := by decide +kernel
abbrev ky_674776_Reader_breaks : gKey := (cX14_breaks, 3, "SpillForgeModel$Reader", none, [], "breaks", fun _ _ => True)
def pp_674776_Reader_breaks (D : va_G) (I : FieldType → ClassId) (P674756 : List Nat) (F674757 : Nat → va_E) (q674758 : Nat) (q674759 : Nat) (p674760 : Int32) (p674761 : Int32) (p674762 : Int32) (p674763 : Int32) (p674764 : Int32) (p674765 : Int32) (p674766 : Int32) (p674767 : Int32) (qo674768 : Nat) (p674769 : Int32) (p674770 : Int32) (p674771 : Int32) (qo674772 : Nat) (qo674773 : Nat) (p674774 : Int32) (f674775 : Nat → Int32) : Option Value → va_W → Nat → Nat → Prop := fun r w dc ds => ∃ (F674828 : Nat → va_E) (o674825 : Int32) (o674826 : Int32), r = none ∧ w = va_pl P674756 F674828 ∧ rFr [q674758] P674756 F674757 F674828 ∧ F674828 q674758 = .inr (19, [.ref q674759, .int p674762, .int p674763, .int p674764, .int p674765, .int p674766, .int p674767, .ref qo674768, .int o674825, .int o674826, .int p674771, .ref qo674772, .ref qo674773, .int p674774]) ∧ F674828 q674759 = .inl (I .byte, 8192, .inl f674775) ∧ dc ≤ 0 ∧ ds ≤ 0 ∧ gB o674825 0 8192 ∧ gB o674826 0 4 ∧ tr_RReader_breaks p674760 p674761 p674769 p674770 o674825 o674826
set_option maxRecDepth 100000 in
set_option maxHeartbeats 4000000 in
theorem cp_674776_Reader_breaks (l : Launch) (hl0 : l.stackTraces = false) (D : va_G) (I : FieldType → ClassId) (P674756 : List Nat) (F674757 : Nat → va_E) (q674758 : Nat) (q674759 : Nat) (p674760 : Int32) (p674761 : Int32) (p674762 : Int32) (p674763 : Int32) (p674764 : Int32) (p674765 : Int32) (p674766 : Int32) (p674767 : Int32) (qo674768 : Nat) (p674769 : Int32) (p674770 : Int32) (p674771 : Int32) (qo674772 : Nat) (qo674773 : Nat) (p674774 : Int32) (f674775 : Nat → Int32) (hmq674758 : q674758 ∈ P674756) (hmq674759 : q674759 ∈ P674756) (heq674758 : F674757 q674758 = .inr (19, [.ref q674759, .int p674762, .int p674763, .int p674764, .int p674765, .int p674766, .int p674767, .ref qo674768, .int p674769, .int p674770, .int p674771, .ref qo674772, .ref qo674773, .int p674774])) (heq674759 : F674757 q674759 = .inl (I .byte, 8192, .inl f674775)) (bp674760 : gB p674760 0 4) (bp674761 : gB p674761 0 8192) (bp674762 : gB p674762 0 8192) (bp674763 : gB p674763 0 8192) (bp674764 : gB p674764 0 6) (bp674765 : gB p674765 0 8192) (bp674767 : gB p674767 0 6) (bp674769 : gB p674769 (-1) 8192) (bp674770 : gB p674770 0 4) (bp674771 : gB p674771 0 1000000) (bp674774 : gB p674774 0 1000000) (bf674775 : gF f674775 (-128) 127) : CtA (gV D I) l yX14_breaks cX14_breaks 3 none 0 0 0 0 [.ref q674758, .int p674760, .int p674761] (va_pl P674756 F674757) (pp_674776_Reader_breaks D I P674756 F674757 q674758 q674759 p674760 p674761 p674762 p674763 p674764 p674765 p674766 p674767 qo674768 p674769 p674770 p674771 qo674772 qo674773 p674774 f674775) gNA := by
  refine CtA_of hl0 (by decide) (Nat.le_of_ble_eq_true rfl) ?_
  have bp674766 := gB_any p674766
  refine G_aload_n 0 dr_cX14_breaks_0 rfl ?_
  refine Gp_get 8 hmq674758 heq674758 dr_cX14_breaks_1 (gk_X14 D I) (Nat.le_of_ble_eq_true rfl) wr_9_44 rfl ?_
  refine G_if_lt 31 dr_cX14_breaks_4 (by decide +kernel) (fun hc674777 => ?_) (fun hc674777 => ?_)
  · have r674778 : p674769.toInt < 0 := gj_lt hc674777 (show Int32.toInt 0 = 0 by decide)
    have bp674769' : gB p674769 (-1) (-1) := ⟨by omega, by omega⟩
    refine G_aload_n 0 dr_cX14_breaks_31 rfl ?_
    refine G_iload_n 2 dr_cX14_breaks_32 rfl ?_
    refine Gp_put 8 hmq674758 heq674758 dr_cX14_breaks_33 (gk_X14 D I) (Nat.le_of_ble_eq_true rfl) wr_9_44 rfl rfl rfl (Nat.le_of_ble_eq_true rfl) (fun F674779 e674780 n674781 => ?_)
    have he674782 : F674779 q674759 = .inl (I .byte, 8192, .inl f674775) := (n674781 q674759 (rn_ao heq674759 heq674758)).trans heq674759
    have he674783 : F674779 q674758 = .inr (19, [.ref q674759, .int p674762, .int p674763, .int p674764, .int p674765, .int p674766, .int p674767, .ref qo674768, .int p674761, .int p674770, .int p674771, .ref qo674772, .ref qo674773, .int p674774]) := e674780
    have hfr674784 : rFr [q674758] P674756 F674757 F674779 := rFr_put (rFr_rf (W := []) (P := P674756) (F := F674757)) n674781
    refine G_aload_n 0 dr_cX14_breaks_36 rfl ?_
    refine G_iload_n 1 dr_cX14_breaks_37 rfl ?_
    refine Gp_put 9 hmq674758 he674783 dr_cX14_breaks_38 (gk_X14 D I) (Nat.le_of_ble_eq_true rfl) wr_9_46 rfl rfl rfl (Nat.le_of_ble_eq_true rfl) (fun F674785 e674786 n674787 => ?_)
    have he674788 : F674785 q674759 = .inl (I .byte, 8192, .inl f674775) := (n674787 q674759 (rn_ao he674782 he674783)).trans he674782
    have he674789 : F674785 q674758 = .inr (19, [.ref q674759, .int p674762, .int p674763, .int p674764, .int p674765, .int p674766, .int p674767, .ref qo674768, .int p674761, .int p674760, .int p674771, .ref qo674772, .ref qo674773, .int p674774]) := e674786
    have hfr674790 : rFr [q674758] P674756 F674757 F674785 := rFr_put' List.mem_cons_self hfr674784 n674787
    exact G_vretA dr_cX14_breaks_41 rfl (Nat.le_of_ble_eq_true rfl) (Nat.le_of_ble_eq_true rfl) ⟨F674785, p674761, p674760, rfl, rfl, hfr674790, he674789, he674788, (Nat.le_of_ble_eq_true rfl), (Nat.le_of_ble_eq_true rfl), bp674761, bp674760, (fun R c1 c2 c3 c4 c5 => c1 r674778)⟩
  · have r674791 : 0 ≤ p674769.toInt := gj_nlt hc674777 (show Int32.toInt 0 = 0 by decide)
    have bp674769' : gB p674769 0 8192 := ⟨by omega, by omega⟩
    refine G_iload_n 2 dr_cX14_breaks_7 rfl ?_
    refine G_aload_n 0 dr_cX14_breaks_8 rfl ?_
    refine Gp_get 8 hmq674758 heq674758 dr_cX14_breaks_9 (gk_X14 D I) (Nat.le_of_ble_eq_true rfl) wr_9_44 rfl ?_
    refine G_icmp_lt 31 dr_cX14_breaks_12 (by decide +kernel) (fun hc674792 => ?_) (fun hc674792 => ?_)
    · have r674793 : p674761.toInt < p674769.toInt := gC_lt hc674792
      have bp674761' : gB p674761 0 8191 := ⟨by omega, by omega⟩
      have bp674769'' : gB p674769 1 8192 := ⟨by omega, by omega⟩
      refine G_aload_n 0 dr_cX14_breaks_31 rfl ?_
      refine G_iload_n 2 dr_cX14_breaks_32 rfl ?_
      refine Gp_put 8 hmq674758 heq674758 dr_cX14_breaks_33 (gk_X14 D I) (Nat.le_of_ble_eq_true rfl) wr_9_44 rfl rfl rfl (Nat.le_of_ble_eq_true rfl) (fun F674794 e674795 n674796 => ?_)
      have he674797 : F674794 q674759 = .inl (I .byte, 8192, .inl f674775) := (n674796 q674759 (rn_ao heq674759 heq674758)).trans heq674759
      have he674798 : F674794 q674758 = .inr (19, [.ref q674759, .int p674762, .int p674763, .int p674764, .int p674765, .int p674766, .int p674767, .ref qo674768, .int p674761, .int p674770, .int p674771, .ref qo674772, .ref qo674773, .int p674774]) := e674795
      have hfr674799 : rFr [q674758] P674756 F674757 F674794 := rFr_put (rFr_rf (W := []) (P := P674756) (F := F674757)) n674796
      refine G_aload_n 0 dr_cX14_breaks_36 rfl ?_
      refine G_iload_n 1 dr_cX14_breaks_37 rfl ?_
      refine Gp_put 9 hmq674758 he674798 dr_cX14_breaks_38 (gk_X14 D I) (Nat.le_of_ble_eq_true rfl) wr_9_46 rfl rfl rfl (Nat.le_of_ble_eq_true rfl) (fun F674800 e674801 n674802 => ?_)
      have he674803 : F674800 q674759 = .inl (I .byte, 8192, .inl f674775) := (n674802 q674759 (rn_ao he674797 he674798)).trans he674797
      have he674804 : F674800 q674758 = .inr (19, [.ref q674759, .int p674762, .int p674763, .int p674764, .int p674765, .int p674766, .int p674767, .ref qo674768, .int p674761, .int p674760, .int p674771, .ref qo674772, .ref qo674773, .int p674774]) := e674801
      have hfr674805 : rFr [q674758] P674756 F674757 F674800 := rFr_put' List.mem_cons_self hfr674799 n674802
      exact G_vretA dr_cX14_breaks_41 rfl (Nat.le_of_ble_eq_true rfl) (Nat.le_of_ble_eq_true rfl) ⟨F674800, p674761, p674760, rfl, rfl, hfr674805, he674804, he674803, (Nat.le_of_ble_eq_true rfl), (Nat.le_of_ble_eq_true rfl), (gB_w bp674761' (by decide) (by decide)), bp674760, (fun R c1 c2 c3 c4 c5 => c2 r674791 r674793)⟩
    · have r674806 : p674769.toInt ≤ p674761.toInt := gC_nlt hc674792
      refine G_iload_n 2 dr_cX14_breaks_15 rfl ?_
      refine G_aload_n 0 dr_cX14_breaks_16 rfl ?_
      refine Gp_get 8 hmq674758 heq674758 dr_cX14_breaks_17 (gk_X14 D I) (Nat.le_of_ble_eq_true rfl) wr_9_44 rfl ?_
      refine G_icmp_ne 41 dr_cX14_breaks_20 (by decide +kernel) (fun hc674807 => ?_) (fun hc674807 => ?_)
      · have r674808 : p674761.toInt ≠ p674769.toInt := gC_ne hc674807
        exact G_vretA dr_cX14_breaks_41 rfl (Nat.le_of_ble_eq_true rfl) (Nat.le_of_ble_eq_true rfl) ⟨F674757, p674769, p674770, rfl, rfl, (rFr_v (rFr_rf (W := []) (P := P674756) (F := F674757)) (fun b hn => nm_n)), heq674758, heq674759, (Nat.le_of_ble_eq_true rfl), (Nat.le_of_ble_eq_true rfl), bp674769', bp674770, (fun R c1 c2 c3 c4 c5 => c3 r674791 r674806 r674808)⟩
      · have r674809 : p674761.toInt = p674769.toInt := gC_eq hc674807
        refine G_iload_n 1 dr_cX14_breaks_23 rfl ?_
        refine G_aload_n 0 dr_cX14_breaks_24 rfl ?_
        refine Gp_get 9 hmq674758 heq674758 dr_cX14_breaks_25 (gk_X14 D I) (Nat.le_of_ble_eq_true rfl) wr_9_46 rfl ?_
        refine G_icmp_ge 41 dr_cX14_breaks_28 (by decide +kernel) (fun hc674810 => ?_) (fun hc674810 => ?_)
        · have r674811 : p674770.toInt ≤ p674760.toInt := gC_le hc674810
          exact G_vretA dr_cX14_breaks_41 rfl (Nat.le_of_ble_eq_true rfl) (Nat.le_of_ble_eq_true rfl) ⟨F674757, p674769, p674770, rfl, rfl, (rFr_v (rFr_rf (W := []) (P := P674756) (F := F674757)) (fun b hn => nm_n)), heq674758, heq674759, (Nat.le_of_ble_eq_true rfl), (Nat.le_of_ble_eq_true rfl), bp674769', bp674770, (fun R c1 c2 c3 c4 c5 => c4 r674791 r674806 r674809 r674811)⟩
        · have r674812 : p674760.toInt < p674770.toInt := gC_nle hc674810
          have bp674760' : gB p674760 0 3 := ⟨by omega, by omega⟩
          have bp674770' : gB p674770 1 4 := ⟨by omega, by omega⟩
          refine G_aload_n 0 dr_cX14_breaks_31 rfl ?_
          refine G_iload_n 2 dr_cX14_breaks_32 rfl ?_
          refine Gp_put 8 hmq674758 heq674758 dr_cX14_breaks_33 (gk_X14 D I) (Nat.le_of_ble_eq_true rfl) wr_9_44 rfl rfl rfl (Nat.le_of_ble_eq_true rfl) (fun F674813 e674814 n674815 => ?_)
          have he674816 : F674813 q674759 = .inl (I .byte, 8192, .inl f674775) := (n674815 q674759 (rn_ao heq674759 heq674758)).trans heq674759
          have he674817 : F674813 q674758 = .inr (19, [.ref q674759, .int p674762, .int p674763, .int p674764, .int p674765, .int p674766, .int p674767, .ref qo674768, .int p674761, .int p674770, .int p674771, .ref qo674772, .ref qo674773, .int p674774]) := e674814
          have hfr674818 : rFr [q674758] P674756 F674757 F674813 := rFr_put (rFr_rf (W := []) (P := P674756) (F := F674757)) n674815
          refine G_aload_n 0 dr_cX14_breaks_36 rfl ?_
          refine G_iload_n 1 dr_cX14_breaks_37 rfl ?_
          refine Gp_put 9 hmq674758 he674817 dr_cX14_breaks_38 (gk_X14 D I) (Nat.le_of_ble_eq_true rfl) wr_9_46 rfl rfl rfl (Nat.le_of_ble_eq_true rfl) (fun F674819 e674820 n674821 => ?_)
          have he674822 : F674819 q674759 = .inl (I .byte, 8192, .inl f674775) := (n674821 q674759 (rn_ao he674816 he674817)).trans he674816
          have he674823 : F674819 q674758 = .inr (19, [.ref q674759, .int p674762, .int p674763, .int p674764, .int p674765, .int p674766, .int p674767, .ref qo674768, .int p674761, .int p674760, .int p674771, .ref qo674772, .ref qo674773, .int p674774]) := e674820
          have hfr674824 : rFr [q674758] P674756 F674757 F674819 := rFr_put' List.mem_cons_self hfr674818 n674821
          exact G_vretA dr_cX14_breaks_41 rfl (Nat.le_of_ble_eq_true rfl) (Nat.le_of_ble_eq_true rfl) ⟨F674819, p674761, p674760, rfl, rfl, hfr674824, he674823, he674822, (Nat.le_of_ble_eq_true rfl), (Nat.le_of_ble_eq_true rfl), bp674761, (gB_w bp674760' (by decide) (by decide)), (fun R c1 c2 c3 c4 c5 => c5 r674791 r674806 r674809 r674812)⟩
/- tr_RReader_operand: a.0...at, a.0...kind, a.0...place, a.0...value, a.1...a, a.1...b, a.1...regA, a.1...regB -/
def tr_RReader_operand (a2 : Int32) (a0_n : Int32) (a0_at : Int32) (a0_kind : Int32) (a0_value : Int32) (a1_a : Int32) (a1_b : Int32) (a1_regA : Int32) (a1_regB : Int32) (a0_t_v : Nat → Int32) (o1 : Int32) (o2 : Int32) (o3 : Int32) (o4 : Int32) (o5 : Int32) (o6 : Int32) (o7 : Int32) (o8 : Int32) (o9 : gTx) : Prop := ∀ R : (Int32) → (Int32) → (Int32) → (Int32) → (Int32) → (Int32) → (Int32) → (Int32) → (gTx) → Prop,
  (∀ (x1 : gTx) (x2 : Int32) (x3 : Int32) (x4 : Int32) (x5 : Int32), a0_kind.toInt ≠ 2 → a0_kind.toInt = 4 → a2.toInt = 0 → gB x2 0 8192 → gB x3 0 6 → gB x4 0 8192 → tr_RReader_next a0_n a0_at a0_kind a0_value a0_t_v x2 x3 x4 x5 x1 → R x2 x3 x4 x5 a0_value a1_b (0 : Int32) a1_regB x1) →
  (∀ (x1 : gTx) (x2 : Int32) (x3 : Int32) (x4 : Int32) (x5 : Int32), a0_kind.toInt ≠ 2 → a0_kind.toInt = 4 → a2.toInt ≠ 0 → gB x2 0 8192 → gB x3 0 6 → gB x4 0 8192 → tr_RReader_next a0_n a0_at a0_kind a0_value a0_t_v x2 x3 x4 x5 x1 → R x2 x3 x4 x5 a1_a a0_value a1_regA (0 : Int32) x1) →
  (∀ (x1 : gTx) (x2 : Int32) (x3 : Int32) (x4 : Int32) (x5 : Int32), a0_kind.toInt = 2 → a2.toInt = 0 → gB x2 0 8192 → gB x3 0 6 → gB x4 0 8192 → tr_RReader_next a0_n a0_at a0_kind a0_value a0_t_v x2 x3 x4 x5 x1 → R x2 x3 x4 x5 a0_value a1_b (1 : Int32) a1_regB x1) →
  (∀ (x1 : gTx) (x2 : Int32) (x3 : Int32) (x4 : Int32) (x5 : Int32), a0_kind.toInt = 2 → a2.toInt ≠ 0 → gB x2 0 8192 → gB x3 0 6 → gB x4 0 8192 → tr_RReader_next a0_n a0_at a0_kind a0_value a0_t_v x2 x3 x4 x5 x1 → R x2 x3 x4 x5 a1_a a0_value a1_regA (1 : Int32) x1) →
  R o1 o2 o3 o4 o5 o6 o7 o8 o9
/- tx_RReader_operand: throws -/
def tx_RReader_operand (a0_kind : Int32) : Prop := ∀ R : Prop,
  (a0_kind.toInt ≠ 2 → a0_kind.toInt ≠ 4 → R) →
  R
abbrev ky_674865_Reader_operand : gKey := (cX14_operand, 4, "SpillForgeModel$Reader", none, [], "operand", fun _ _ => True)
def pp_674865_Reader_operand (D : va_G) (I : FieldType → ClassId) (P674829 : List Nat) (F674830 : Nat → va_E) (q674831 : Nat) (q674832 : Nat) (q674833 : Nat) (p674834 : Int32) (p674835 : Int32) (p674836 : Int32) (p674837 : Int32) (p674838 : Int32) (p674839 : Int32) (p674840 : Int32) (qo674841 : Nat) (p674842 : Int32) (p674843 : Int32) (p674844 : Int32) (qo674845 : Nat) (qo674846 : Nat) (p674847 : Int32) (p674848 : Int32) (p674849 : Int32) (p674850 : Int32) (p674851 : Int32) (p674852 : Int32) (p674853 : Int32) (p674854 : Int32) (f674855 : Nat → Int32) (xt674856 : gTx) : Option Value → va_W → Nat → Nat → Prop := fun r w dc ds => ∃ (P675090 : List Nat) (F675091 : Nat → va_E) (o675081 : Int32) (o675082 : Int32) (o675083 : Int32) (o675084 : Int32) (q675085 : Nat) (o675086 : Int32) (o675087 : Int32) (o675088 : Int32) (o675089 : Int32) (xt675092 : gTx), r = none ∧ w = va_pl P675090 F675091 ∧ rSub P674829 P675090 ∧ rFr [q674832, q674831] P674829 F674830 F675091 ∧ F675091 q674832 = .inr (20, [.int p674848, .int p674849, .int o675086, .int o675087, .int p674852, .int o675088, .int o675089]) ∧ F675091 q674831 = .inr (19, [.ref q674833, .int p674835, .int o675081, .int o675082, .int o675083, .int o675084, .int p674837, .ref q675085, .int p674842, .int p674843, .int p674844, .ref qo674845, .ref qo674846, .int p674847]) ∧ F675091 q674833 = .inl (I .byte, 8192, .inl f674855) ∧ dc ≤ (16 * (o675081.toInt - p674836.toInt)).toNat ∧ ds ≤ (160 * (o675081.toInt - p674836.toInt)).toNat ∧ gB o675081 0 8192 ∧ gB o675082 0 6 ∧ gB o675083 0 8192 ∧ gB o675088 0 1 ∧ gB o675089 0 1 ∧ p674836.toInt ≤ o675081.toInt ∧ prP o675082 p674836 o675081 ∧ o675081.toInt ≤ p674835.toInt ∧ tP I P675090 F675091 o675082 q675085 qo674846 qo674845 xt675092 ∧ vP o675082 o675084 ∧ rwP o675088 o675086 ∧ rwP o675089 o675087 ∧ nzK p674837 ∧ tr_RReader_operand p674834 p674835 p674836 p674837 p674839 p674850 p674851 p674853 p674854 f674855 o675081 o675082 o675083 o675084 o675086 o675087 o675088 o675089 xt675092
def xp_674865_Reader_operand (D : va_G) (I : FieldType → ClassId) (P674829 : List Nat) (F674830 : Nat → va_E) (q674831 : Nat) (q674832 : Nat) (q674833 : Nat) (p674834 : Int32) (p674835 : Int32) (p674836 : Int32) (p674837 : Int32) (p674838 : Int32) (p674839 : Int32) (p674840 : Int32) (qo674841 : Nat) (p674842 : Int32) (p674843 : Int32) (p674844 : Int32) (qo674845 : Nat) (qo674846 : Nat) (p674847 : Int32) (p674848 : Int32) (p674849 : Int32) (p674850 : Int32) (p674851 : Int32) (p674852 : Int32) (p674853 : Int32) (p674854 : Int32) (f674855 : Nat → Int32) (xt674856 : gTx) : String → Nat → va_W → Nat → Nat → Prop := fun E q w dc ds => ∃ (P675094 : List Nat) (F675093 : Nat → va_E), E = "SpillForgeModel$Wrong" ∧ w = va_pl P675094 F675093 ∧ rSub P674829 P675094 ∧ rFr [] P674829 F674830 F675093 ∧ q ∈ P675094 ∧ q ∉ P674829 ∧ wrF F675093 q ∧ dc ≤ (16 * (p674835.toInt - p674836.toInt)).toNat + 1 ∧ ds ≤ (160 * (p674835.toInt - p674836.toInt)).toNat + 7 ∧ rkR (F675093 q674832) ∧ tx_RReader_operand p674837
set_option maxRecDepth 100000 in
set_option maxHeartbeats 4000000 in
theorem cp_674865_Reader_operand (l : Launch) (hl0 : l.stackTraces = false) (D : va_G) (I : FieldType → ClassId) (P674829 : List Nat) (F674830 : Nat → va_E) (q674831 : Nat) (q674832 : Nat) (q674833 : Nat) (p674834 : Int32) (p674835 : Int32) (p674836 : Int32) (p674837 : Int32) (p674838 : Int32) (p674839 : Int32) (p674840 : Int32) (qo674841 : Nat) (p674842 : Int32) (p674843 : Int32) (p674844 : Int32) (qo674845 : Nat) (qo674846 : Nat) (p674847 : Int32) (p674848 : Int32) (p674849 : Int32) (p674850 : Int32) (p674851 : Int32) (p674852 : Int32) (p674853 : Int32) (p674854 : Int32) (f674855 : Nat → Int32) (xt674856 : gTx) (hmq674831 : q674831 ∈ P674829) (hmq674832 : q674832 ∈ P674829) (hmq674833 : q674833 ∈ P674829) (heq674831 : F674830 q674831 = .inr (19, [.ref q674833, .int p674835, .int p674836, .int p674837, .int p674838, .int p674839, .int p674840, .ref qo674841, .int p674842, .int p674843, .int p674844, .ref qo674845, .ref qo674846, .int p674847])) (heq674832 : F674830 q674832 = .inr (20, [.int p674848, .int p674849, .int p674850, .int p674851, .int p674852, .int p674853, .int p674854])) (heq674833 : F674830 q674833 = .inl (I .byte, 8192, .inl f674855)) (bp674834 : gB p674834 0 1) (bp674835 : gB p674835 0 8192) (bp674836 : gB p674836 0 8192) (bp674837 : gB p674837 0 6) (bp674838 : gB p674838 0 8192) (bp674840 : gB p674840 0 6) (bp674842 : gB p674842 (-1) 8192) (bp674843 : gB p674843 0 4) (bp674844 : gB p674844 0 1000000) (bp674847 : gB p674847 0 1000000) (bp674848 : gB p674848 0 32) (bp674849 : gB p674849 0 1999) (bp674852 : gB p674852 0 1999) (bp674853 : gB p674853 0 1) (bp674854 : gB p674854 0 1) (bf674855 : gF f674855 (-128) 127) (x674857 : p674836.toInt ≤ p674835.toInt) (x674858 : qo674846 ∈ P674829) (x674859 : qo674845 ∈ P674829) (x674860 : tP I P674829 F674830 p674837 qo674841 qo674846 qo674845 xt674856) (x674861 : vP p674837 p674839) (x674862 : rwP p674853 p674850) (x674863 : rwP p674854 p674851) (x674864 : opP p674848) : CtA (gV D I) l yX14_operand cX14_operand 4 none 8 177 ((16 * (p674835.toInt - p674836.toInt)).toNat + 1) ((160 * (p674835.toInt - p674836.toInt)).toNat + 7) [.ref q674831, .ref q674832, .int p674834] (va_pl P674829 F674830) (pp_674865_Reader_operand D I P674829 F674830 q674831 q674832 q674833 p674834 p674835 p674836 p674837 p674838 p674839 p674840 qo674841 p674842 p674843 p674844 qo674845 qo674846 p674847 p674848 p674849 p674850 p674851 p674852 p674853 p674854 f674855 xt674856) (xp_674865_Reader_operand D I P674829 F674830 q674831 q674832 q674833 p674834 p674835 p674836 p674837 p674838 p674839 p674840 qo674841 p674842 p674843 p674844 qo674845 qo674846 p674847 p674848 p674849 p674850 p674851 p674852 p674853 p674854 f674855 xt674856) := by
  refine CtA_of hl0 (by decide) (Nat.le_of_ble_eq_true rfl) ?_
  have bp674839 := gB_any p674839
  have bp674850 := gB_any p674850
  have bp674851 := gB_any p674851
  refine G_aload_n 0 dr_cX14_operand_0 rfl ?_
  refine Gp_get 3 hmq674831 heq674831 dr_cX14_operand_1 (gk_X14 D I) (Nat.le_of_ble_eq_true rfl) wr_9_39 rfl ?_
  refine G_iconst 2 dr_cX14_operand_4 (by decide +kernel) ?_
  refine G_icmp_ne 12 dr_cX14_operand_5 (by decide +kernel) (fun hc674866 => ?_) (fun hc674866 => ?_)
  · have r674867 : p674837.toInt ≠ 2 := gj_neq hc674866 (show Int32.toInt 2 = 2 by decide)
    refine G_iconst 0 dr_cX14_operand_12 (by decide +kernel) ?_
    refine G_istore_n (L' := [(3, .int 0), (0, .ref q674831), (1, .ref q674832), (2, .int p674834)]) dr_cX14_operand_13 (Nat.le_of_ble_eq_true rfl) rfl ?_
    refine G_iload_n 0 dr_cX14_operand_14 rfl ?_
    refine G_if_ne 31 dr_cX14_operand_15 (by decide +kernel) (fun hc => absurd hc (by decide)) (fun _ => ?_)
    refine G_aload_n 1 dr_cX14_operand_18 rfl ?_
    refine Gp_get 3 hmq674831 heq674831 dr_cX14_operand_19 (gk_X14 D I) (Nat.le_of_ble_eq_true rfl) wr_9_39 rfl ?_
    refine G_iconst 4 dr_cX14_operand_22 (by decide +kernel) ?_
    refine G_icmp_eq 31 dr_cX14_operand_23 (by decide +kernel) (fun hc674868 => ?_) (fun hc674868 => ?_)
    · have r674869 : p674837.toInt = 4 := gj_eq hc674868 (show Int32.toInt 4 = 4 by decide)
      have bp674837' : gB p674837 4 4 := ⟨by omega, by omega⟩
      refine G_iload_n 3 dr_cX14_operand_31 rfl ?_
      refine G_if_eq 51 dr_cX14_operand_32 (by decide +kernel) (fun hc674870 => ?_) (fun hc674870 => ?_)
      · have r674871 : p674834.toInt = 0 := gj_eq hc674870 (show Int32.toInt 0 = 0 by decide)
        have bp674834' : gB p674834 0 0 := ⟨by omega, by omega⟩
        refine G_aload_n 2 dr_cX14_operand_51 rfl ?_
        refine G_aload_n 1 dr_cX14_operand_52 rfl ?_
        refine Gp_get 5 hmq674831 heq674831 dr_cX14_operand_53 (gk_X14 D I) (Nat.le_of_ble_eq_true rfl) wr_9_41 rfl ?_
        refine Gp_put 2 hmq674832 heq674832 dr_cX14_operand_56 (gk_X15 D I) (Nat.le_of_ble_eq_true rfl) wr_9_187 rfl rfl rfl (Nat.le_of_ble_eq_true rfl) (fun F674872 e674873 n674874 => ?_)
        have he674875 : F674872 q674831 = .inr (19, [.ref q674833, .int p674835, .int p674836, .int p674837, .int p674838, .int p674839, .int p674840, .ref qo674841, .int p674842, .int p674843, .int p674844, .ref qo674845, .ref qo674846, .int p674847]) := (n674874 q674831 (rn_oo heq674831 heq674832 (by decide))).trans heq674831
        have he674876 : F674872 q674833 = .inl (I .byte, 8192, .inl f674855) := (n674874 q674833 (rn_ao heq674833 heq674832)).trans heq674833
        have he674877 : F674872 q674832 = .inr (20, [.int p674848, .int p674849, .int p674839, .int p674851, .int p674852, .int p674853, .int p674854]) := e674873
        have hfr674878 : rFr [q674832] P674829 F674830 F674872 := rFr_put (rFr_rf (W := []) (P := P674829) (F := F674830)) n674874
        have tp674879 : tP I P674829 F674872 p674837 qo674841 qo674846 qo674845 xt674856 := tP_put x674860 heq674832 (by decide) n674874
        refine G_aload_n 2 dr_cX14_operand_59 rfl ?_
        refine G_iload_n 0 dr_cX14_operand_60 rfl ?_
        refine Gp_put 5 hmq674832 he674877 dr_cX14_operand_61 (gk_X15 D I) (Nat.le_of_ble_eq_true rfl) wr_9_198 rfl rfl rfl (Nat.le_of_ble_eq_true rfl) (fun F674880 e674881 n674882 => ?_)
        have he674883 : F674880 q674831 = .inr (19, [.ref q674833, .int p674835, .int p674836, .int p674837, .int p674838, .int p674839, .int p674840, .ref qo674841, .int p674842, .int p674843, .int p674844, .ref qo674845, .ref qo674846, .int p674847]) := (n674882 q674831 (rn_oo he674875 he674877 (by decide))).trans he674875
        have he674884 : F674880 q674833 = .inl (I .byte, 8192, .inl f674855) := (n674882 q674833 (rn_ao he674876 he674877)).trans he674876
        have he674885 : F674880 q674832 = .inr (20, [.int p674848, .int p674849, .int p674839, .int p674851, .int p674852, .int 0, .int p674854]) := e674881
        have hfr674886 : rFr [q674832] P674829 F674830 F674880 := rFr_put' List.mem_cons_self hfr674878 n674882
        have tp674887 : tP I P674829 F674880 p674837 qo674841 qo674846 qo674845 xt674856 := tP_put tp674879 he674877 (by decide) n674882
        refine G_aload_n 1 dr_cX14_operand_64 rfl ?_
        refine Gw_callV (As := []) (gV_ok D I) (cp_672530_Reader_next l hl0 D I P674829 F674880 q674831 q674833 p674835 p674836 p674837 p674838 p674839 p674840 qo674841 p674842 p674843 p674844 qo674845 qo674846 p674847 f674855 hmq674831 hmq674833 he674883 he674884 bp674835 bp674836 (gB_w bp674837' (by decide) (by decide)) bp674838 bp674840 bp674842 bp674843 bp674844 bp674847 bf674855 (by have qa0 : Int32.toInt 0 = 0 := (by decide); omega) x674858 x674859) dr_cX14_operand_65 ⟨wr_7_215, wr_1_32, wr_7_218, by decide, rfl, (Nat.le_of_ble_eq_true rfl), (Nat.le_of_ble_eq_true rfl)⟩ wr_7_217 wr_p_75 hmq674831 he674883 rfl (show 0 + ((16 * (p674835.toInt - p674836.toInt)).toNat) ≤ ((16 * (p674835.toInt - p674836.toInt)).toNat + 1) by first | omega | decide) (show 0 + ((160 * (p674835.toInt - p674836.toInt)).toNat) ≤ ((160 * (p674835.toInt - p674836.toInt)).toNat + 7) by first | omega | decide) (Nat.le_of_ble_eq_true rfl) (fun r674891 w674892 dc674888 ds674889 hp674890 => ?_) (fun _ _ _ _ _ z => z.elim)
        obtain ⟨P674905, F674906, o674893, o674894, o674895, o674896, q674897, xt674904, rfl, rfl, hsb674907, hfr674908, he674909, he674910, hdc, hds, bo674893, bo674894, bo674895, x674898, x674899, x674900, x674901, x674902, ht674903⟩ := hp674890
        have hm674911 : q674831 ∈ P674905 := hsb674907 q674831 hmq674831
        have hm674912 : q674832 ∈ P674905 := hsb674907 q674832 hmq674832
        have hm674913 : q674833 ∈ P674905 := hsb674907 q674833 hmq674833
        have hsb674914 : rSub P674829 P674905 := rSub_tr (rSub_rf (P := P674829)) hsb674907
        have he674915 : F674906 q674832 = .inr (20, [.int p674848, .int p674849, .int p674839, .int p674851, .int p674852, .int 0, .int p674854]) := (hfr674908 q674832 hmq674832 (nm_c (rn_oo he674885 he674883 (by decide)) nm_n)).trans he674885
        have hfr674916 : rFr [q674832, q674831] P674829 F674830 F674906 := rFr_call (rSub_rf (P := P674829)) hfr674886 hfr674908 (fun b hb hn => ⟨(nm_c (fun e => hn (e ▸ List.mem_cons_self)) nm_n), (nm_c (fun e => hn (e ▸ (List.mem_cons_of_mem _ List.mem_cons_self))) nm_n)⟩)
        have bo674896 := gB_any o674896
        change G _ _ _ _ _ _ _ _ _ _ _
        refine G_widen (cs' := (16 * (o674893.toInt - p674836.toInt)).toNat) (sl' := (160 * (o674893.toInt - p674836.toInt)).toNat) (by omega) (by omega) ?_
        exact G_vretA dr_cX14_operand_68 rfl (show (16 * (o674893.toInt - p674836.toInt)).toNat ≤ ((16 * (p674835.toInt - p674836.toInt)).toNat + 1) by omega) (show (160 * (o674893.toInt - p674836.toInt)).toNat ≤ ((160 * (p674835.toInt - p674836.toInt)).toNat + 7) by omega) ⟨P674905, F674906, o674893, o674894, o674895, o674896, q674897, p674839, p674851, 0, p674854, xt674904, rfl, rfl, hsb674914, hfr674916, he674915, he674909, he674910, (by omega), (by omega), bo674893, bo674894, bo674895, (gB_w (gBl (show Int32.toInt 0 = 0 by decide)) (by decide) (by decide)), bp674854, (by have qa0 : Int32.toInt 0 = 0 := (by decide); omega), x674899, (by have qa0 : Int32.toInt 0 = 0 := (by decide); omega), x674901, x674902, rwP_0, x674863, (show nzK p674837 by unfold nzK; omega), (fun R c1 c2 c3 c4 => c1 xt674904 o674893 o674894 o674895 o674896 r674867 r674869 r674871 bo674893 bo674894 bo674895 ht674903)⟩
      · have r674917 : p674834.toInt ≠ 0 := gj_neq hc674870 (show Int32.toInt 0 = 0 by decide)
        have bp674834' : gB p674834 1 1 := ⟨by omega, by omega⟩
        refine G_aload_n 2 dr_cX14_operand_35 rfl ?_
        refine G_aload_n 1 dr_cX14_operand_36 rfl ?_
        refine Gp_get 5 hmq674831 heq674831 dr_cX14_operand_37 (gk_X14 D I) (Nat.le_of_ble_eq_true rfl) wr_9_41 rfl ?_
        refine Gp_put 3 hmq674832 heq674832 dr_cX14_operand_40 (gk_X15 D I) (Nat.le_of_ble_eq_true rfl) wr_9_191 rfl rfl rfl (Nat.le_of_ble_eq_true rfl) (fun F674918 e674919 n674920 => ?_)
        have he674921 : F674918 q674831 = .inr (19, [.ref q674833, .int p674835, .int p674836, .int p674837, .int p674838, .int p674839, .int p674840, .ref qo674841, .int p674842, .int p674843, .int p674844, .ref qo674845, .ref qo674846, .int p674847]) := (n674920 q674831 (rn_oo heq674831 heq674832 (by decide))).trans heq674831
        have he674922 : F674918 q674833 = .inl (I .byte, 8192, .inl f674855) := (n674920 q674833 (rn_ao heq674833 heq674832)).trans heq674833
        have he674923 : F674918 q674832 = .inr (20, [.int p674848, .int p674849, .int p674850, .int p674839, .int p674852, .int p674853, .int p674854]) := e674919
        have hfr674924 : rFr [q674832] P674829 F674830 F674918 := rFr_put (rFr_rf (W := []) (P := P674829) (F := F674830)) n674920
        have tp674925 : tP I P674829 F674918 p674837 qo674841 qo674846 qo674845 xt674856 := tP_put x674860 heq674832 (by decide) n674920
        refine G_aload_n 2 dr_cX14_operand_43 rfl ?_
        refine G_iload_n 0 dr_cX14_operand_44 rfl ?_
        refine Gp_put 6 hmq674832 he674923 dr_cX14_operand_45 (gk_X15 D I) (Nat.le_of_ble_eq_true rfl) wr_9_201 rfl rfl rfl (Nat.le_of_ble_eq_true rfl) (fun F674926 e674927 n674928 => ?_)
        have he674929 : F674926 q674831 = .inr (19, [.ref q674833, .int p674835, .int p674836, .int p674837, .int p674838, .int p674839, .int p674840, .ref qo674841, .int p674842, .int p674843, .int p674844, .ref qo674845, .ref qo674846, .int p674847]) := (n674928 q674831 (rn_oo he674921 he674923 (by decide))).trans he674921
        have he674930 : F674926 q674833 = .inl (I .byte, 8192, .inl f674855) := (n674928 q674833 (rn_ao he674922 he674923)).trans he674922
        have he674931 : F674926 q674832 = .inr (20, [.int p674848, .int p674849, .int p674850, .int p674839, .int p674852, .int p674853, .int 0]) := e674927
        have hfr674932 : rFr [q674832] P674829 F674830 F674926 := rFr_put' List.mem_cons_self hfr674924 n674928
        have tp674933 : tP I P674829 F674926 p674837 qo674841 qo674846 qo674845 xt674856 := tP_put tp674925 he674923 (by decide) n674928
        refine G_goto 64 dr_cX14_operand_48 (by decide +kernel) ?_
        refine G_aload_n 1 dr_cX14_operand_64 rfl ?_
        refine Gw_callV (As := []) (gV_ok D I) (cp_672530_Reader_next l hl0 D I P674829 F674926 q674831 q674833 p674835 p674836 p674837 p674838 p674839 p674840 qo674841 p674842 p674843 p674844 qo674845 qo674846 p674847 f674855 hmq674831 hmq674833 he674929 he674930 bp674835 bp674836 (gB_w bp674837' (by decide) (by decide)) bp674838 bp674840 bp674842 bp674843 bp674844 bp674847 bf674855 (by have qa0 : Int32.toInt 0 = 0 := (by decide); omega) x674858 x674859) dr_cX14_operand_65 ⟨wr_7_215, wr_1_32, wr_7_218, by decide, rfl, (Nat.le_of_ble_eq_true rfl), (Nat.le_of_ble_eq_true rfl)⟩ wr_7_217 wr_p_75 hmq674831 he674929 rfl (show 0 + ((16 * (p674835.toInt - p674836.toInt)).toNat) ≤ ((16 * (p674835.toInt - p674836.toInt)).toNat + 1) by first | omega | decide) (show 0 + ((160 * (p674835.toInt - p674836.toInt)).toNat) ≤ ((160 * (p674835.toInt - p674836.toInt)).toNat + 7) by first | omega | decide) (Nat.le_of_ble_eq_true rfl) (fun r674937 w674938 dc674934 ds674935 hp674936 => ?_) (fun _ _ _ _ _ z => z.elim)
        obtain ⟨P674951, F674952, o674939, o674940, o674941, o674942, q674943, xt674950, rfl, rfl, hsb674953, hfr674954, he674955, he674956, hdc, hds, bo674939, bo674940, bo674941, x674944, x674945, x674946, x674947, x674948, ht674949⟩ := hp674936
        have hm674957 : q674831 ∈ P674951 := hsb674953 q674831 hmq674831
        have hm674958 : q674832 ∈ P674951 := hsb674953 q674832 hmq674832
        have hm674959 : q674833 ∈ P674951 := hsb674953 q674833 hmq674833
        have hsb674960 : rSub P674829 P674951 := rSub_tr (rSub_rf (P := P674829)) hsb674953
        have he674961 : F674952 q674832 = .inr (20, [.int p674848, .int p674849, .int p674850, .int p674839, .int p674852, .int p674853, .int 0]) := (hfr674954 q674832 hmq674832 (nm_c (rn_oo he674931 he674929 (by decide)) nm_n)).trans he674931
        have hfr674962 : rFr [q674832, q674831] P674829 F674830 F674952 := rFr_call (rSub_rf (P := P674829)) hfr674932 hfr674954 (fun b hb hn => ⟨(nm_c (fun e => hn (e ▸ List.mem_cons_self)) nm_n), (nm_c (fun e => hn (e ▸ (List.mem_cons_of_mem _ List.mem_cons_self))) nm_n)⟩)
        have bo674942 := gB_any o674942
        change G _ _ _ _ _ _ _ _ _ _ _
        refine G_widen (cs' := (16 * (o674939.toInt - p674836.toInt)).toNat) (sl' := (160 * (o674939.toInt - p674836.toInt)).toNat) (by omega) (by omega) ?_
        exact G_vretA dr_cX14_operand_68 rfl (show (16 * (o674939.toInt - p674836.toInt)).toNat ≤ ((16 * (p674835.toInt - p674836.toInt)).toNat + 1) by omega) (show (160 * (o674939.toInt - p674836.toInt)).toNat ≤ ((160 * (p674835.toInt - p674836.toInt)).toNat + 7) by omega) ⟨P674951, F674952, o674939, o674940, o674941, o674942, q674943, p674850, p674839, p674853, 0, xt674950, rfl, rfl, hsb674960, hfr674962, he674961, he674955, he674956, (by omega), (by omega), bo674939, bo674940, bo674941, bp674853, (gB_w (gBl (show Int32.toInt 0 = 0 by decide)) (by decide) (by decide)), (by have qa0 : Int32.toInt 0 = 0 := (by decide); omega), x674945, (by have qa0 : Int32.toInt 0 = 0 := (by decide); omega), x674947, x674948, x674862, rwP_0, (show nzK p674837 by unfold nzK; omega), (fun R c1 c2 c3 c4 => c2 xt674950 o674939 o674940 o674941 o674942 r674867 r674869 r674917 bo674939 bo674940 bo674941 ht674949)⟩
    · have r674963 : p674837.toInt ≠ 4 := gj_neq hc674868 (show Int32.toInt 4 = 4 by decide)
      refine G_aload_n 1 dr_cX14_operand_26 rfl ?_
      refine Gw_callV (As := []) (gV_ok D I) (cp_674270_Reader_no l hl0 D I P674829 F674830 q674831 q674833 p674835 p674836 p674837 p674838 p674839 p674840 qo674841 p674842 p674843 p674844 qo674845 qo674846 p674847 f674855 hmq674831 hmq674833 heq674831 heq674833 bp674835 bp674836 bp674837 bp674838 bp674840 bp674842 bp674843 bp674844 bp674847 bf674855) dr_cX14_operand_27 ⟨wr_9_97, wr_1_32, wr_9_100, by decide, rfl, (Nat.le_of_ble_eq_true rfl), (Nat.le_of_ble_eq_true rfl)⟩ wr_9_99 wr_p_81 hmq674831 heq674831 rfl (show 0 + 1 ≤ ((16 * (p674835.toInt - p674836.toInt)).toNat + 1) by first | omega | decide) (show 0 + 7 ≤ ((160 * (p674835.toInt - p674836.toInt)).toNat + 7) by first | omega | decide) (Nat.le_of_ble_eq_true rfl) (fun r674967 w674968 dc674964 ds674965 hp674966 => ?_) (fun _ _ _ _ _ z => z.elim)
      obtain ⟨P674970, F674971, q674969, rfl, rfl, hsb674972, hfr674973, he674974, he674975, he674976, hm674977, hq674978, hdc, hds⟩ := hp674966
      have hm674979 : q674831 ∈ P674970 := hsb674972 q674831 hmq674831
      have hm674980 : q674832 ∈ P674970 := hsb674972 q674832 hmq674832
      have hm674981 : q674833 ∈ P674970 := hsb674972 q674833 hmq674833
      have hq674982 : q674969 ∉ P674829 := fun z => hq674978 ((rSub_rf (P := P674829)) q674969 z)
      have hsb674983 : rSub P674829 P674970 := rSub_tr (rSub_rf (P := P674829)) hsb674972
      have he674984 : F674971 q674832 = .inr (20, [.int p674848, .int p674849, .int p674850, .int p674851, .int p674852, .int p674853, .int p674854]) := (hfr674973 q674832 hmq674832 nm_n).trans heq674832
      have hfr674985 : rFr [] P674829 F674830 F674971 := rFr_call (rSub_rf (P := P674829)) (rFr_rf (W := []) (P := P674829) (F := F674830)) hfr674973 (fun b hb hn => ⟨nm_n, nm_n⟩)
      have tp674986 : tP I P674970 F674971 p674837 qo674841 qo674846 qo674845 xt674856 := tP_new x674860 hsb674972 (fun b hb => hfr674973 b hb (fun z => by cases z)) (Or.inl rfl) (Or.inl rfl)
      change G _ _ _ _ _ _ _ (.ref q674969 :: _) _ _ _
      refine G_widen (cs' := 1) (sl' := 7) (by omega) (by omega) ?_
      exact Gp_athrow hm674977 he674976 rfl dr_cX14_operand_30 (GT_outA rfl (show 1 ≤ ((16 * (p674835.toInt - p674836.toInt)).toNat + 1) by omega) (show 7 ≤ ((160 * (p674835.toInt - p674836.toInt)).toNat + 7) by omega) ⟨P674970, F674971, rfl, rfl, hsb674983, hfr674985, hm674977, hq674982, ⟨_, _, _, _, _, _, _, he674976, by omega⟩, (by omega), (by omega), ⟨p674848, p674849, p674850, p674851, p674852, p674853, p674854, he674984, bp674848, bp674849, bp674852, bp674853, bp674854, x674864, x674862, x674863⟩, (fun R c1 => c1 r674867 r674963)⟩)
  · have r674987 : p674837.toInt = 2 := gj_eq hc674866 (show Int32.toInt 2 = 2 by decide)
    have bp674837' : gB p674837 2 2 := ⟨by omega, by omega⟩
    refine G_iconst 1 dr_cX14_operand_8 (by decide +kernel) ?_
    refine G_goto 13 dr_cX14_operand_9 (by decide +kernel) ?_
    refine G_istore_n (L' := [(3, .int 1), (0, .ref q674831), (1, .ref q674832), (2, .int p674834)]) dr_cX14_operand_13 (Nat.le_of_ble_eq_true rfl) rfl ?_
    refine G_iload_n 0 dr_cX14_operand_14 rfl ?_
    refine G_if_ne 31 dr_cX14_operand_15 (by decide +kernel) (fun _ => ?_) (fun hc => absurd hc (by decide))
    refine G_iload_n 3 dr_cX14_operand_31 rfl ?_
    refine G_if_eq 51 dr_cX14_operand_32 (by decide +kernel) (fun hc674988 => ?_) (fun hc674988 => ?_)
    · have r674989 : p674834.toInt = 0 := gj_eq hc674988 (show Int32.toInt 0 = 0 by decide)
      have bp674834' : gB p674834 0 0 := ⟨by omega, by omega⟩
      refine G_aload_n 2 dr_cX14_operand_51 rfl ?_
      refine G_aload_n 1 dr_cX14_operand_52 rfl ?_
      refine Gp_get 5 hmq674831 heq674831 dr_cX14_operand_53 (gk_X14 D I) (Nat.le_of_ble_eq_true rfl) wr_9_41 rfl ?_
      refine Gp_put 2 hmq674832 heq674832 dr_cX14_operand_56 (gk_X15 D I) (Nat.le_of_ble_eq_true rfl) wr_9_187 rfl rfl rfl (Nat.le_of_ble_eq_true rfl) (fun F674990 e674991 n674992 => ?_)
      have he674993 : F674990 q674831 = .inr (19, [.ref q674833, .int p674835, .int p674836, .int p674837, .int p674838, .int p674839, .int p674840, .ref qo674841, .int p674842, .int p674843, .int p674844, .ref qo674845, .ref qo674846, .int p674847]) := (n674992 q674831 (rn_oo heq674831 heq674832 (by decide))).trans heq674831
      have he674994 : F674990 q674833 = .inl (I .byte, 8192, .inl f674855) := (n674992 q674833 (rn_ao heq674833 heq674832)).trans heq674833
      have he674995 : F674990 q674832 = .inr (20, [.int p674848, .int p674849, .int p674839, .int p674851, .int p674852, .int p674853, .int p674854]) := e674991
      have hfr674996 : rFr [q674832] P674829 F674830 F674990 := rFr_put (rFr_rf (W := []) (P := P674829) (F := F674830)) n674992
      have tp674997 : tP I P674829 F674990 p674837 qo674841 qo674846 qo674845 xt674856 := tP_put x674860 heq674832 (by decide) n674992
      refine G_aload_n 2 dr_cX14_operand_59 rfl ?_
      refine G_iload_n 0 dr_cX14_operand_60 rfl ?_
      refine Gp_put 5 hmq674832 he674995 dr_cX14_operand_61 (gk_X15 D I) (Nat.le_of_ble_eq_true rfl) wr_9_198 rfl rfl rfl (Nat.le_of_ble_eq_true rfl) (fun F674998 e674999 n675000 => ?_)
      have he675001 : F674998 q674831 = .inr (19, [.ref q674833, .int p674835, .int p674836, .int p674837, .int p674838, .int p674839, .int p674840, .ref qo674841, .int p674842, .int p674843, .int p674844, .ref qo674845, .ref qo674846, .int p674847]) := (n675000 q674831 (rn_oo he674993 he674995 (by decide))).trans he674993
      have he675002 : F674998 q674833 = .inl (I .byte, 8192, .inl f674855) := (n675000 q674833 (rn_ao he674994 he674995)).trans he674994
      have he675003 : F674998 q674832 = .inr (20, [.int p674848, .int p674849, .int p674839, .int p674851, .int p674852, .int 1, .int p674854]) := e674999
      have hfr675004 : rFr [q674832] P674829 F674830 F674998 := rFr_put' List.mem_cons_self hfr674996 n675000
      have tp675005 : tP I P674829 F674998 p674837 qo674841 qo674846 qo674845 xt674856 := tP_put tp674997 he674995 (by decide) n675000
      refine G_aload_n 1 dr_cX14_operand_64 rfl ?_
      refine Gw_callV (As := []) (gV_ok D I) (cp_672530_Reader_next l hl0 D I P674829 F674998 q674831 q674833 p674835 p674836 p674837 p674838 p674839 p674840 qo674841 p674842 p674843 p674844 qo674845 qo674846 p674847 f674855 hmq674831 hmq674833 he675001 he675002 bp674835 bp674836 (gB_w bp674837' (by decide) (by decide)) bp674838 bp674840 bp674842 bp674843 bp674844 bp674847 bf674855 (by have qa0 : Int32.toInt 1 = 1 := (by decide); omega) x674858 x674859) dr_cX14_operand_65 ⟨wr_7_215, wr_1_32, wr_7_218, by decide, rfl, (Nat.le_of_ble_eq_true rfl), (Nat.le_of_ble_eq_true rfl)⟩ wr_7_217 wr_p_75 hmq674831 he675001 rfl (show 0 + ((16 * (p674835.toInt - p674836.toInt)).toNat) ≤ ((16 * (p674835.toInt - p674836.toInt)).toNat + 1) by first | omega | decide) (show 0 + ((160 * (p674835.toInt - p674836.toInt)).toNat) ≤ ((160 * (p674835.toInt - p674836.toInt)).toNat + 7) by first | omega | decide) (Nat.le_of_ble_eq_true rfl) (fun r675009 w675010 dc675006 ds675007 hp675008 => ?_) (fun _ _ _ _ _ z => z.elim)
      obtain ⟨P675023, F675024, o675011, o675012, o675013, o675014, q675015, xt675022, rfl, rfl, hsb675025, hfr675026, he675027, he675028, hdc, hds, bo675011, bo675012, bo675013, x675016, x675017, x675018, x675019, x675020, ht675021⟩ := hp675008
      have hm675029 : q674831 ∈ P675023 := hsb675025 q674831 hmq674831
      have hm675030 : q674832 ∈ P675023 := hsb675025 q674832 hmq674832
      have hm675031 : q674833 ∈ P675023 := hsb675025 q674833 hmq674833
      have hsb675032 : rSub P674829 P675023 := rSub_tr (rSub_rf (P := P674829)) hsb675025
      have he675033 : F675024 q674832 = .inr (20, [.int p674848, .int p674849, .int p674839, .int p674851, .int p674852, .int 1, .int p674854]) := (hfr675026 q674832 hmq674832 (nm_c (rn_oo he675003 he675001 (by decide)) nm_n)).trans he675003
      have hfr675034 : rFr [q674832, q674831] P674829 F674830 F675024 := rFr_call (rSub_rf (P := P674829)) hfr675004 hfr675026 (fun b hb hn => ⟨(nm_c (fun e => hn (e ▸ List.mem_cons_self)) nm_n), (nm_c (fun e => hn (e ▸ (List.mem_cons_of_mem _ List.mem_cons_self))) nm_n)⟩)
      have bo675014 := gB_any o675014
      change G _ _ _ _ _ _ _ _ _ _ _
      refine G_widen (cs' := (16 * (o675011.toInt - p674836.toInt)).toNat) (sl' := (160 * (o675011.toInt - p674836.toInt)).toNat) (by omega) (by omega) ?_
      exact G_vretA dr_cX14_operand_68 rfl (show (16 * (o675011.toInt - p674836.toInt)).toNat ≤ ((16 * (p674835.toInt - p674836.toInt)).toNat + 1) by omega) (show (160 * (o675011.toInt - p674836.toInt)).toNat ≤ ((160 * (p674835.toInt - p674836.toInt)).toNat + 7) by omega) ⟨P675023, F675024, o675011, o675012, o675013, o675014, q675015, p674839, p674851, 1, p674854, xt675022, rfl, rfl, hsb675032, hfr675034, he675033, he675027, he675028, (by omega), (by omega), bo675011, bo675012, bo675013, (gB_w (gBl (show Int32.toInt 1 = 1 by decide)) (by decide) (by decide)), bp674854, (by have qa0 : Int32.toInt 1 = 1 := (by decide); omega), x675017, (by have qa0 : Int32.toInt 1 = 1 := (by decide); omega), x675019, x675020, (rwP_1 x674861 (by omega)), x674863, (show nzK p674837 by unfold nzK; omega), (fun R c1 c2 c3 c4 => c3 xt675022 o675011 o675012 o675013 o675014 r674987 r674989 bo675011 bo675012 bo675013 ht675021)⟩
    · have r675035 : p674834.toInt ≠ 0 := gj_neq hc674988 (show Int32.toInt 0 = 0 by decide)
      have bp674834' : gB p674834 1 1 := ⟨by omega, by omega⟩
      refine G_aload_n 2 dr_cX14_operand_35 rfl ?_
      refine G_aload_n 1 dr_cX14_operand_36 rfl ?_
      refine Gp_get 5 hmq674831 heq674831 dr_cX14_operand_37 (gk_X14 D I) (Nat.le_of_ble_eq_true rfl) wr_9_41 rfl ?_
      refine Gp_put 3 hmq674832 heq674832 dr_cX14_operand_40 (gk_X15 D I) (Nat.le_of_ble_eq_true rfl) wr_9_191 rfl rfl rfl (Nat.le_of_ble_eq_true rfl) (fun F675036 e675037 n675038 => ?_)
      have he675039 : F675036 q674831 = .inr (19, [.ref q674833, .int p674835, .int p674836, .int p674837, .int p674838, .int p674839, .int p674840, .ref qo674841, .int p674842, .int p674843, .int p674844, .ref qo674845, .ref qo674846, .int p674847]) := (n675038 q674831 (rn_oo heq674831 heq674832 (by decide))).trans heq674831
      have he675040 : F675036 q674833 = .inl (I .byte, 8192, .inl f674855) := (n675038 q674833 (rn_ao heq674833 heq674832)).trans heq674833
      have he675041 : F675036 q674832 = .inr (20, [.int p674848, .int p674849, .int p674850, .int p674839, .int p674852, .int p674853, .int p674854]) := e675037
      have hfr675042 : rFr [q674832] P674829 F674830 F675036 := rFr_put (rFr_rf (W := []) (P := P674829) (F := F674830)) n675038
      have tp675043 : tP I P674829 F675036 p674837 qo674841 qo674846 qo674845 xt674856 := tP_put x674860 heq674832 (by decide) n675038
      refine G_aload_n 2 dr_cX14_operand_43 rfl ?_
      refine G_iload_n 0 dr_cX14_operand_44 rfl ?_
      refine Gp_put 6 hmq674832 he675041 dr_cX14_operand_45 (gk_X15 D I) (Nat.le_of_ble_eq_true rfl) wr_9_201 rfl rfl rfl (Nat.le_of_ble_eq_true rfl) (fun F675044 e675045 n675046 => ?_)
      have he675047 : F675044 q674831 = .inr (19, [.ref q674833, .int p674835, .int p674836, .int p674837, .int p674838, .int p674839, .int p674840, .ref qo674841, .int p674842, .int p674843, .int p674844, .ref qo674845, .ref qo674846, .int p674847]) := (n675046 q674831 (rn_oo he675039 he675041 (by decide))).trans he675039
      have he675048 : F675044 q674833 = .inl (I .byte, 8192, .inl f674855) := (n675046 q674833 (rn_ao he675040 he675041)).trans he675040
      have he675049 : F675044 q674832 = .inr (20, [.int p674848, .int p674849, .int p674850, .int p674839, .int p674852, .int p674853, .int 1]) := e675045
      have hfr675050 : rFr [q674832] P674829 F674830 F675044 := rFr_put' List.mem_cons_self hfr675042 n675046
      have tp675051 : tP I P674829 F675044 p674837 qo674841 qo674846 qo674845 xt674856 := tP_put tp675043 he675041 (by decide) n675046
      refine G_goto 64 dr_cX14_operand_48 (by decide +kernel) ?_
      refine G_aload_n 1 dr_cX14_operand_64 rfl ?_
      refine Gw_callV (As := []) (gV_ok D I) (cp_672530_Reader_next l hl0 D I P674829 F675044 q674831 q674833 p674835 p674836 p674837 p674838 p674839 p674840 qo674841 p674842 p674843 p674844 qo674845 qo674846 p674847 f674855 hmq674831 hmq674833 he675047 he675048 bp674835 bp674836 (gB_w bp674837' (by decide) (by decide)) bp674838 bp674840 bp674842 bp674843 bp674844 bp674847 bf674855 (by have qa0 : Int32.toInt 1 = 1 := (by decide); omega) x674858 x674859) dr_cX14_operand_65 ⟨wr_7_215, wr_1_32, wr_7_218, by decide, rfl, (Nat.le_of_ble_eq_true rfl), (Nat.le_of_ble_eq_true rfl)⟩ wr_7_217 wr_p_75 hmq674831 he675047 rfl (show 0 + ((16 * (p674835.toInt - p674836.toInt)).toNat) ≤ ((16 * (p674835.toInt - p674836.toInt)).toNat + 1) by first | omega | decide) (show 0 + ((160 * (p674835.toInt - p674836.toInt)).toNat) ≤ ((160 * (p674835.toInt - p674836.toInt)).toNat + 7) by first | omega | decide) (Nat.le_of_ble_eq_true rfl) (fun r675055 w675056 dc675052 ds675053 hp675054 => ?_) (fun _ _ _ _ _ z => z.elim)
      obtain ⟨P675069, F675070, o675057, o675058, o675059, o675060, q675061, xt675068, rfl, rfl, hsb675071, hfr675072, he675073, he675074, hdc, hds, bo675057, bo675058, bo675059, x675062, x675063, x675064, x675065, x675066, ht675067⟩ := hp675054
      have hm675075 : q674831 ∈ P675069 := hsb675071 q674831 hmq674831
      have hm675076 : q674832 ∈ P675069 := hsb675071 q674832 hmq674832
      have hm675077 : q674833 ∈ P675069 := hsb675071 q674833 hmq674833
      have hsb675078 : rSub P674829 P675069 := rSub_tr (rSub_rf (P := P674829)) hsb675071
      have he675079 : F675070 q674832 = .inr (20, [.int p674848, .int p674849, .int p674850, .int p674839, .int p674852, .int p674853, .int 1]) := (hfr675072 q674832 hmq674832 (nm_c (rn_oo he675049 he675047 (by decide)) nm_n)).trans he675049
      have hfr675080 : rFr [q674832, q674831] P674829 F674830 F675070 := rFr_call (rSub_rf (P := P674829)) hfr675050 hfr675072 (fun b hb hn => ⟨(nm_c (fun e => hn (e ▸ List.mem_cons_self)) nm_n), (nm_c (fun e => hn (e ▸ (List.mem_cons_of_mem _ List.mem_cons_self))) nm_n)⟩)
      have bo675060 := gB_any o675060
      change G _ _ _ _ _ _ _ _ _ _ _
      refine G_widen (cs' := (16 * (o675057.toInt - p674836.toInt)).toNat) (sl' := (160 * (o675057.toInt - p674836.toInt)).toNat) (by omega) (by omega) ?_
      exact G_vretA dr_cX14_operand_68 rfl (show (16 * (o675057.toInt - p674836.toInt)).toNat ≤ ((16 * (p674835.toInt - p674836.toInt)).toNat + 1) by omega) (show (160 * (o675057.toInt - p674836.toInt)).toNat ≤ ((160 * (p674835.toInt - p674836.toInt)).toNat + 7) by omega) ⟨P675069, F675070, o675057, o675058, o675059, o675060, q675061, p674850, p674839, p674853, 1, xt675068, rfl, rfl, hsb675078, hfr675080, he675079, he675073, he675074, (by omega), (by omega), bo675057, bo675058, bo675059, bp674853, (gB_w (gBl (show Int32.toInt 1 = 1 by decide)) (by decide) (by decide)), (by have qa0 : Int32.toInt 1 = 1 := (by decide); omega), x675063, (by have qa0 : Int32.toInt 1 = 1 := (by decide); omega), x675065, x675066, x674862, (rwP_1 x674861 (by omega)), (show nzK p674837 by unfold nzK; omega), (fun R c1 c2 c3 c4 => c4 xt675068 o675057 o675058 o675059 o675060 r674987 r675035 bo675057 bo675058 bo675059 ht675067)⟩
/- tr_RStringLatin1_charAt2: result -/
def tr_RStringLatin1_charAt2 (bs : List Int32) (a1 : Int32) (o1 : Int32) : Prop := ∀ R : (Int32) → Prop,
  (∀ (x1 : Int32) (x2 : Int32) (x3 : Int32) (x4 : Int32), x1.toInt = (bs.length : Int) → tr_RString_checkIndex a1 x1 → x2 = bs.getD a1.toNatClampNeg 0 → x3 = x2 &&& (255 : Int32) → x4 = (x3.toUInt32 % 65536).toInt32 → R x4) →
  R o1
abbrev ky_675274_StringLatin1_charAt : gKey := (cJ1_charAt_3b067, 2, "java/lang/StringLatin1", (some FieldType.char), [], "charAt", fun _ _ => True)
def pp_675274_StringLatin1_charAt (D : va_G) (I : FieldType → ClassId) (P675268 : List Nat) (F675269 : Nat → va_E) (qs675270 : Nat) (bs675271 : List Int32) (p675272 : Int32) : Option Value → va_W → Nat → Nat → Prop := fun r w dc ds => ∃ (o675285 : Int32), r = some (.int o675285) ∧ w = va_pl P675268 F675269 ∧ dc ≤ 0 ∧ ds ≤ 0 ∧ gB o675285 0 255 ∧ chP (fun j => bs675271.getD j 0) p675272 o675285 ∧ tr_RStringLatin1_charAt2 bs675271 p675272 o675285
set_option maxRecDepth 100000 in
set_option maxHeartbeats 4000000 in
theorem cp_675274_StringLatin1_charAt (l : Launch) (hl0 : l.stackTraces = false) (D : va_G) (I : FieldType → ClassId) (P675268 : List Nat) (F675269 : Nat → va_E) (qs675270 : Nat) (bs675271 : List Int32) (p675272 : Int32) (hbs675271 : ∀ A s H, (gV D I).2.2.2.1 A s H → va_T .byte qs675270 bs675271.length (fun j => .int (bs675271.getD j 0)) A s H) (nbs675271 : (bs675271.length : Int) ≤ 65535) (lbs675271 : gLB bs675271) (bp675272 : gB p675272 0 16777215) (x675273 : p675272.toInt < (bs675271.length : Int)) : CtA (gV D I) l yJ1_charAt_3b067 cJ1_charAt_3b067 2 (some FieldType.char) 2 43 0 0 [.ref qs675270, .int p675272] (va_pl P675268 F675269) (pp_675274_StringLatin1_charAt D I P675268 F675269 qs675270 bs675271 p675272) gNA := by
  refine CtA_ofF hl0 (by decide +kernel) (Nat.le_of_ble_eq_true rfl) ?_
  refine G_iload_n 1 dr_cJ1_charAt_3b067_0 rfl ?_
  refine G_aload_n 0 dr_cJ1_charAt_3b067_1 rfl ?_
  refine G_klen dr_cJ1_charAt_3b067_2 hbs675271 (G_nam fun z675275 hz675275 => ?_)
  have ez675275 : z675275.toInt = (bs675271.length : Int) := gI_ofN hz675275 nbs675271
  have bz675275 : gB z675275 0 65535 := ⟨by omega, by omega⟩
  refine Gw_callS (As := [.int p675272, .int z675275]) (gV_ok D I) (cp_658623_String_checkIndex l hl0 D I P675268 F675269 p675272 z675275 (gB_w bp675272 (by decide) (by decide)) (gB_w bz675275 (by decide) (by decide)) (by omega)) dr_cJ1_charAt_3b067_3 ⟨wr_3_78, wr_1_21, wr_3_80, by decide, rfl, (Nat.le_of_ble_eq_true rfl), (Nat.le_of_ble_eq_true rfl)⟩ wr_3_79 (show 0 + 0 ≤ 0 by first | omega | decide) (show 0 + 0 ≤ 0 by first | omega | decide) (Nat.le_of_ble_eq_true rfl) (fun r675279 w675280 dc675276 ds675277 hp675278 => ?_) (fun _ _ _ _ _ z => z.elim)
  obtain ⟨rfl, rfl, hdc, hds, ht675281⟩ := hp675278
  change G _ _ _ _ _ _ _ _ _ _ _
  refine G_widen (cs' := 0) (sl' := 0) (by omega) (by omega) ?_
  refine G_aload_n 0 dr_cJ1_charAt_3b067_6 rfl ?_
  refine G_iload_n 1 dr_cJ1_charAt_3b067_7 rfl ?_
  refine G_kbald (f := fun j => bs675271.getD j 0) dr_cJ1_charAt_3b067_8 hbs675271 (gB_inr (by omega) (by omega)) (G_nam fun z675282 hz675282 => ?_)
  have bz675282 : gB z675282 (-2147483648) 2147483647 := gB_any z675282
  refine G_sipush 255 dr_cJ1_charAt_3b067_9 (by decide +kernel) ?_
  refine G_iand dr_cJ1_charAt_3b067_12 (G_nam fun z675283 hz675283 => ?_)
  have bz675283 : gB z675283 0 255 := gB_and hz675283 (gBl (show Int32.toInt 255 = 255 by decide)) (by decide)
  refine G_i2c dr_cJ1_charAt_3b067_13 (G_nam fun z675284 hz675284 => ?_)
  have ez675284 : z675284.toInt = z675283.toInt := gI_i2c hz675284 (by omega) (by omega)
  have bz675284 : gB z675284 0 255 := ⟨by omega, by omega⟩
  exact G_zretA FieldType.char dr_cJ1_charAt_3b067_14 rfl (gN_char (gB_w bz675284 (by decide) (by decide))) (Nat.le_of_ble_eq_true rfl) (Nat.le_of_ble_eq_true rfl) ⟨z675284, rfl, rfl, (Nat.le_of_ble_eq_true rfl), (Nat.le_of_ble_eq_true rfl), bz675284, (chP_of (by assumption) (by assumption) (by omega) (chb lbs675271 (by assumption))), (fun R c1 => c1 z675275 z675282 z675283 z675284 ez675275 ht675281 hz675282 hz675283 hz675284)⟩
/- tr_RString_charAt2: result -/
def tr_RString_charAt2 (bs : List Int32) (a1 : Int32) (o1 : Int32) : Prop := ∀ R : (Int32) → Prop,
  (∀ (x1 : Int32), gB x1 0 255 → tr_RStringLatin1_charAt2 bs a1 x1 → R x1) →
  R o1
abbrev ky_675262_String_charAt : gKey := (cJ0_charAt_5068e, 2, "java/lang/String", (some FieldType.char), [], "charAt", fun _ _ => True)
def pp_675262_String_charAt (D : va_G) (I : FieldType → ClassId) (P675255 : List Nat) (F675256 : Nat → va_E) (qs675257 : Nat) (qb675258 : Nat) (bs675259 : List Int32) (p675260 : Int32) : Option Value → va_W → Nat → Nat → Prop := fun r w dc ds => ∃ (o675294 : Int32), r = some (.int o675294) ∧ w = va_pl P675255 F675256 ∧ dc ≤ 0 ∧ ds ≤ 0 ∧ gB o675294 0 255 ∧ chP (fun j => bs675259.getD j 0) p675260 o675294 ∧ tr_RString_charAt2 bs675259 p675260 o675294
set_option maxRecDepth 100000 in
set_option maxHeartbeats 4000000 in
theorem cp_675262_String_charAt (l : Launch) (hl0 : l.stackTraces = false) (D : va_G) (I : FieldType → ClassId) (P675255 : List Nat) (F675256 : Nat → va_E) (qs675257 : Nat) (qb675258 : Nat) (bs675259 : List Int32) (p675260 : Int32) (hbs675259 : ∀ A s H, (gV D I).2.2.2.1 A s H → gSC qs675257 qb675258 bs675259 A s H) (nbs675259 : (bs675259.length : Int) ≤ 65535) (lbs675259 : gLB bs675259) (bp675260 : gB p675260 0 65535) (x675261 : p675260.toInt < (bs675259.length : Int)) : CtA (gV D I) l yJ0_charAt_5068e cJ0_charAt_5068e 2 (some FieldType.char) 3 64 0 0 [.ref qs675257, .int p675260] (va_pl P675255 F675256) (pp_675262_String_charAt D I P675255 F675256 qs675257 qb675258 bs675259 p675260) gNA := by
  refine CtA_ofF hl0 (by decide +kernel) (Nat.le_of_ble_eq_true rfl) ?_
  refine G_aload_n 0 dr_cJ0_charAt_5068e_0 rfl ?_
  refine Gw_callVk (As := []) (gV_ok D I) (cp_660304_String_isLatin1 l hl0 D I P675255 F675256 qs675257 qb675258 bs675259 hbs675259 nbs675259 lbs675259) dr_cJ0_charAt_5068e_1 ⟨wr_3_71, wr_1_21, wr_3_74, by decide, rfl, (Nat.le_of_ble_eq_true rfl), (Nat.le_of_ble_eq_true rfl)⟩ wr_3_72 wr_3_73 (fun _ _ _ h => (hbs675259 _ _ _ h).1) (show 0 + 0 ≤ 0 by first | omega | decide) (show 0 + 0 ≤ 0 by first | omega | decide) (Nat.le_of_ble_eq_true rfl) (fun r675266 w675267 dc675263 ds675264 hp675265 => ?_) (fun _ _ _ _ _ z => z.elim)
  obtain ⟨rfl, rfl, hdc, hds⟩ := hp675265
  change G _ _ _ _ _ _ _ (.int 1 :: _) _ _ _
  refine G_widen (cs' := 0) (sl' := 0) (by omega) (by omega) ?_
  refine G_if_eq 16 dr_cJ0_charAt_5068e_4 (by decide +kernel) (fun hc => absurd hc (by decide)) (fun _ => ?_)
  refine G_aload_n 0 dr_cJ0_charAt_5068e_7 rfl ?_
  refine G_kget dr_cJ0_charAt_5068e_8 wr_8_182 (fun _ _ _ h => (hbs675259 _ _ _ h).2.2.1) ?_
  refine G_iload_n 1 dr_cJ0_charAt_5068e_11 rfl ?_
  refine Gw_callS (As := [.ref qb675258, .int p675260]) (gV_ok D I) (cp_675274_StringLatin1_charAt l hl0 D I P675255 F675256 qb675258 bs675259 p675260 (fun _ _ _ h => (hbs675259 _ _ _ h).2.2.2) (by omega) lbs675259 (gB_w bp675260 (by decide) (by decide)) (by omega)) dr_cJ0_charAt_5068e_12 ⟨wr_3_75, wr_1_28, wr_3_77, by decide, rfl, (Nat.le_of_ble_eq_true rfl), (Nat.le_of_ble_eq_true rfl)⟩ wr_3_76 (show 0 + 0 ≤ 0 by first | omega | decide) (show 0 + 0 ≤ 0 by first | omega | decide) (Nat.le_of_ble_eq_true rfl) (fun r675289 w675290 dc675286 ds675287 hp675288 => ?_) (fun _ _ _ _ _ z => z.elim)
  obtain ⟨o675291, rfl, rfl, hdc, hds, bo675291, x675292, ht675293⟩ := hp675288
  change G _ _ _ _ _ _ _ (.int o675291 :: _) _ _ _
  refine G_widen (cs' := 0) (sl' := 0) (by omega) (by omega) ?_
  exact G_zretA FieldType.char dr_cJ0_charAt_5068e_15 rfl (gN_char (gB_w bo675291 (by decide) (by decide))) (Nat.le_of_ble_eq_true rfl) (Nat.le_of_ble_eq_true rfl) ⟨o675291, rfl, rfl, (Nat.le_of_ble_eq_true rfl), (Nat.le_of_ble_eq_true rfl), bo675291, x675292, (fun R c1 => c1 o675291 bo675291 ht675293)⟩
/- tl_RModel_operation_40: l3, l2; out: l2 -/
def tl_RModel_operation_40 (c1 : Int32) (s1 : Int32) (s2 : Int32) (k : Nat) (e1 : Int32) : Prop := ∀ R : (Int32) → (Int32) → Nat → (Int32) → Prop,
  (∀ (l3_1 : Int32) (l2_1 : Int32), gB l3_1 0 16777215 → c1.toInt ≤ l3_1.toInt → R l3_1 l2_1 70 l2_1) →
  (∀ (l3_1 : Int32) (l2_1 : Int32) (x1 : Int32) (x2 : Int32) (x3 : Int32) (k : Nat) (e1 : Int32), gB l3_1 0 16777215 → l3_1.toInt < c1.toInt → gB x1 0 255 → tr_RString_charAt2 sb_42 l3_1 x1 → x1.toInt ≠ 32 → x2.toInt = l2_1.toInt + 0 → x3.toInt = l3_1.toInt + 1 → R x3 x2 k e1 → R l3_1 l2_1 k e1) →
  (∀ (l3_1 : Int32) (l2_1 : Int32) (x1 : Int32) (x2 : Int32) (x3 : Int32) (k : Nat) (e1 : Int32), gB l3_1 0 16777215 → l3_1.toInt < c1.toInt → gB x1 0 255 → tr_RString_charAt2 sb_42 l3_1 x1 → x1.toInt = 32 → x2.toInt = l2_1.toInt + 1 → x3.toInt = l3_1.toInt + 1 → R x3 x2 k e1 → R l3_1 l2_1 k e1) →
  R s1 s2 k e1
/- tr_RModel_operation: result -/
def tr_RModel_operation (a0_value_v : Nat → Int32) (a0_value_n : Nat) (o1 : Int32) : Prop := ∀ R : (Int32) → Prop,
  (∀ (x1 : Int32) (x2 : Nat → Int32) (x3 : Int32) (x4 : Nat → Int32) (x5 : Int32) (x6 : Nat → Int32) (x7 : Nat) (x8 : Nat → Int32) (x9 : Int32) (x10 : Int32), gB x1 0 16777216 → (tr_RStringBuilder_append4 sb_43 (0 : Int32) (fun _ => 0) 16 x1 x2) → gB x3 0 16777216 → tr_RStringBuilder_append3 x1 x2 16 a0_value_v a0_value_n x3 x4 → gB x5 0 16777216 → tr_RStringBuilder_append4 sb_43 x3 x4 16 x5 x6 → tr_RStringBuilder_toString x5 x6 16 x7 x8 → gB x9 (-2147483646) 16777215 → tr_RString_indexOf sb_42 x8 x7 x9 → 0 ≤ x9.toInt → tl_RModel_operation_40 x9 (0 : Int32) (1 : Int32) 70 x10 → R x10) →
  (∀ (x1 : Int32) (x2 : Nat → Int32) (x3 : Int32) (x4 : Nat → Int32) (x5 : Int32) (x6 : Nat → Int32) (x7 : Nat) (x8 : Nat → Int32) (x9 : Int32), gB x1 0 16777216 → (tr_RStringBuilder_append4 sb_43 (0 : Int32) (fun _ => 0) 16 x1 x2) → gB x3 0 16777216 → tr_RStringBuilder_append3 x1 x2 16 a0_value_v a0_value_n x3 x4 → gB x5 0 16777216 → tr_RStringBuilder_append4 sb_43 x3 x4 16 x5 x6 → tr_RStringBuilder_toString x5 x6 16 x7 x8 → gB x9 (-2147483646) 16777215 → tr_RString_indexOf sb_42 x8 x7 x9 → x9.toInt < 0 → R (0 : Int32)) →
  R o1
abbrev ky_675105_SpillForgeModel_operation : gKey := (cX17_operation, 4, "SpillForgeModel", (some FieldType.int), [], "operation", fun _ _ => True)
def pp_675105_SpillForgeModel_operation (D : va_G) (I : FieldType → ClassId) (P675095 : List Nat) (F675096 : Nat → va_E) (q675097 : Nat) (q675098 : Nat) (p675099 : Int32) (p675100 : Int32) (f675101 : Nat → Int32) (n675102 : Nat) : Option Value → va_W → Nat → Nat → Prop := fun r w dc ds => ∃ (P675460 : List Nat) (F675461 : Nat → va_E) (o675459 : Int32), r = some (.int o675459) ∧ w = va_pl P675460 F675461 ∧ rSub P675095 P675460 ∧ rFr [] P675095 F675096 F675461 ∧ F675461 q675097 = .inr (0, [.ref q675098, .int 0, .int p675099, .int p675100]) ∧ F675461 q675098 = .inl (I .byte, n675102, .inl f675101) ∧ dc ≤ 8 ∧ ds ≤ 64 ∧ gB o675459 0 14 ∧ 0 ≤ o675459.toInt ∧ o675459.toInt ≤ 14 ∧ tr_RModel_operation f675101 n675102 o675459
set_option maxRecDepth 100000 in
set_option maxHeartbeats 4000000 in
theorem cp_675105_SpillForgeModel_operation (l : Launch) (hl0 : l.stackTraces = false) (D : va_G) (I : FieldType → ClassId) (P675095 : List Nat) (F675096 : Nat → va_E) (q675097 : Nat) (q675098 : Nat) (p675099 : Int32) (p675100 : Int32) (f675101 : Nat → Int32) (n675102 : Nat) (hmq675097 : q675097 ∈ P675095) (hmq675098 : q675098 ∈ P675095) (heq675097 : F675096 q675097 = .inr (0, [.ref q675098, .int 0, .int p675099, .int p675100])) (heq675098 : F675096 q675098 = .inl (I .byte, n675102, .inl f675101)) (bp675100 : gB p675100 0 1) (bf675101 : gF f675101 (-128) 127) (x675103 : (n675102 : Int) ≤ 2) (x675104 : ((n675102 : Int) ≤ 16777216)) : CtA (gV D I) l yX17_operation cX17_operation 4 (some FieldType.int) 6 132 8 64 [.ref q675097] (va_pl P675095 F675096) (pp_675105_SpillForgeModel_operation D I P675095 F675096 q675097 q675098 p675099 p675100 f675101 n675102) gNA := by
  refine CtA_of hl0 (by decide) (Nat.le_of_ble_eq_true rfl) ?_
  have bp675099 := gB_any p675099
  refine G_ldcK (a := D.2 1000 42) dr_cX17_operation_0 (fun _ _ _ h => gx_vk 42 rfl rfl h) ?_
  have hl42_675105 : (sb_42.length : Int) = 34 := rfl
  refine G_new [.null, .int 0, .int 0, .int 0] dr_cX17_operation_2 (gk_J4 D I) wr_7_43 wr_7_44 wr_1_20 (gfs_J4) (show 0 + 1 ≤ 8 by first | omega | decide) (show 0 + 4 ≤ 64 by first | omega | decide) (fun q675107 => Gp_in (fun P675108 F675109 hq675110 hP675111 e675112 n675113 => ?_))
  refine G_widen (cs' := 1) (sl' := 4) (by omega) (by omega) ?_
  have he675114 : F675109 q675097 = .inr (0, [.ref q675098, .int 0, .int p675099, .int p675100]) := (n675113 q675097 (fun h => hq675110 (h ▸ hmq675097))).trans heq675097
  have he675115 : F675109 q675098 = .inl (I .byte, n675102, .inl f675101) := (n675113 q675098 (fun h => hq675110 (h ▸ hmq675098))).trans heq675098
  have he675116 : F675109 q675107 = .inr (1, [.null, .int 0, .int 0, .int 0]) := e675112
  have hm675117 : q675097 ∈ P675108 := (hP675111 q675097).mpr (Or.inl hmq675097)
  have hm675118 : q675098 ∈ P675108 := (hP675111 q675098).mpr (Or.inl hmq675098)
  have hm675119 : q675107 ∈ P675108 := (hP675111 q675107).mpr (Or.inr rfl)
  have hq675120 : q675107 ∉ P675095 := fun z => hq675110 ((rSub_rf (P := P675095)) q675107 z)
  have hfr675121 : rFr [] P675095 F675096 F675109 := rFr_new (rSub_rf (P := P675095)) hq675110 (rFr_rf (W := []) (P := P675095) (F := F675096)) n675113
  have hsb675122 : rSub P675095 P675108 := rSub_new (rSub_rf (P := P675095)) hP675111
  refine G_dup dr_cX17_operation_5 rfl ?_
  refine Gw_callI (As := []) (gV_ok D I) (cp_659115_StringBuilder_init l hl0 D I P675108 F675109 q675107 0 0 hm675119 he675116 (gB_w (gBl (show Int32.toInt 0 = 0 by decide)) (by decide) (by decide)) (gB_w (gBl (show Int32.toInt 0 = 0 by decide)) (by decide) (by decide))) dr_cX17_operation_6 ⟨wr_7_45, wr_1_20, wr_7_47, by decide, rfl, (Nat.le_of_ble_eq_true rfl), (Nat.le_of_ble_eq_true rfl)⟩ wr_7_46 rfl (show 1 + 1 ≤ 8 by first | omega | decide) (show 4 + 16 ≤ 64 by first | omega | decide) (Nat.le_of_ble_eq_true rfl) (fun r675126 w675127 dc675123 ds675124 hp675125 => ?_)
  obtain ⟨P675129, F675130, q675128, rfl, rfl, hsb675131, hfr675132, he675133, he675134, hm675135, hq675136, hdc, hds⟩ := hp675125
  have hm675137 : q675097 ∈ P675129 := hsb675131 q675097 hm675117
  have hm675138 : q675098 ∈ P675129 := hsb675131 q675098 hm675118
  have hm675139 : q675107 ∈ P675129 := hsb675131 q675107 hm675119
  have hq675140 : q675128 ∉ P675095 := fun z => hq675136 (hsb675122 q675128 z)
  have hsb675141 : rSub P675095 P675129 := rSub_tr hsb675122 hsb675131
  have he675142 : F675130 q675097 = .inr (0, [.ref q675098, .int 0, .int p675099, .int p675100]) := (hfr675132 q675097 hm675117 (nm_c (fun h => hq675120 (h ▸ hmq675097)) nm_n)).trans he675114
  have he675143 : F675130 q675098 = .inl (I .byte, n675102, .inl f675101) := (hfr675132 q675098 hm675118 (nm_c (fun h => hq675120 (h ▸ hmq675098)) nm_n)).trans he675115
  have hfr675144 : rFr [] P675095 F675096 F675130 := rFr_call hsb675122 hfr675121 hfr675132 (fun b hb hn => ⟨nm_n, (nm_c (fun e => hq675120 (e ▸ hb)) nm_n)⟩)
  change G _ _ _ _ _ _ _ _ _ _ _
  refine G_widen (cs' := 2) (sl' := 20) (by omega) (by omega) ?_
  refine G_ldcK (a := D.2 1000 43) dr_cX17_operation_9 (fun _ _ _ h => gx_vk 43 rfl rfl h) ?_
  have hl43_675144 : (sb_43.length : Int) = 1 := rfl
  refine Gw_callV (As := [.ref (D.2 1000 43)]) (gV_ok D I) (cp_659417_StringBuilder_append l hl0 D I P675129 F675130 q675107 q675128 (D.2 1000 43) (D.2 1001 43) sb_43 0 0 (fun _ => 0) 16 hm675139 hm675135 he675133 he675134 (gx_sc 43 rfl rfl) (by omega) (by decide +kernel) (gB_w (gBl (show Int32.toInt 0 = 0 by decide)) (by decide) (by decide)) (gB_w (gBl (show Int32.toInt 0 = 0 by decide)) (by decide) (by decide)) (gF_w gF_0 (by decide) (by decide)) (by have qa0 : Int32.toInt 0 = 0 := (by decide); omega) (by have qa0 : Int32.toInt 0 = 0 := (by decide); omega)) dr_cX17_operation_11 ⟨wr_10_100, wr_1_20, wr_8_143, by decide, rfl, (Nat.le_of_ble_eq_true rfl), (Nat.le_of_ble_eq_true rfl)⟩ wr_8_141 wr_8_142 hm675139 he675133 rfl (show 2 + 0 ≤ 8 by first | omega | decide) (show 20 + 0 ≤ 64 by first | omega | decide) (Nat.le_of_ble_eq_true rfl) (fun r675149 w675150 dc675146 ds675147 hp675148 => ?_) (fun _ _ _ _ _ z => z.elim)
  obtain ⟨F675157, o675151, f675152, rfl, rfl, hfr675159, he675160, he675161, hdc, hds, bo675151, bf675152, x675153, x675154, x675155, ht675156⟩ := hp675148
  have he675162 : F675157 q675097 = .inr (0, [.ref q675098, .int 0, .int p675099, .int p675100]) := (hfr675159 q675097 hm675137 (nm_c (fun h => hq675120 (h ▸ hmq675097)) (nm_c (fun h => hq675140 (h ▸ hmq675097)) nm_n))).trans he675142
  have he675163 : F675157 q675098 = .inl (I .byte, n675102, .inl f675101) := (hfr675159 q675098 hm675138 (nm_c (fun h => hq675120 (h ▸ hmq675098)) (nm_c (fun h => hq675140 (h ▸ hmq675098)) nm_n))).trans he675143
  have hfr675164 : rFr [] P675095 F675096 F675157 := rFr_call hsb675141 hfr675144 hfr675159 (fun b hb hn => ⟨nm_n, (nm_c (fun e => hq675120 (e ▸ hb)) (nm_c (fun e => hq675140 (e ▸ hb)) nm_n))⟩)
  rw [show Int32.toInt 0 = 0 from by decide] at x675153
  rw [show Int32.toInt 0 = 0 from by decide] at x675154
  rw [show Int32.toInt 0 = 0 from by decide] at x675155
  change G _ _ _ _ _ _ _ (.ref q675107 :: _) _ _ _
  refine G_widen (cs' := 2) (sl' := 20) (by omega) (by omega) ?_
  refine G_aload_n 0 dr_cX17_operation_14 rfl ?_
  refine Gw_callV (As := [.ref q675097]) (gV_ok D I) (cp_659189_StringBuilder_append l hl0 D I P675129 F675157 q675107 q675097 q675128 q675098 0 o675151 p675099 p675100 f675152 16 f675101 n675102 hm675139 hm675137 hm675135 hm675138 he675160 he675162 he675161 he675163 (fun h => hq675140 (h ▸ hmq675098)) (gB_w (gBl (show Int32.toInt 0 = 0 by decide)) (by decide) (by decide)) bo675151 bp675100 bf675152 bf675101 (by have qa0 : Int32.toInt 0 = 0 := (by decide); omega) (by have qa0 : Int32.toInt 0 = 0 := (by decide); omega) (by have qa0 : Int32.toInt 0 = 0 := (by decide); omega)) dr_cX17_operation_15 ⟨wr_10_100, wr_1_20, wr_8_143, by decide, rfl, (Nat.le_of_ble_eq_true rfl), (Nat.le_of_ble_eq_true rfl)⟩ wr_8_141 wr_8_142 hm675139 he675160 rfl (show 2 + 0 ≤ 8 by first | omega | decide) (show 20 + 0 ≤ 64 by first | omega | decide) (Nat.le_of_ble_eq_true rfl) (fun r675168 w675169 dc675165 ds675166 hp675167 => ?_) (fun _ _ _ _ _ z => z.elim)
  obtain ⟨F675176, o675170, f675171, rfl, rfl, hfr675178, he675179, he675180, he675181, he675182, hdc, hds, bo675170, bf675171, x675172, x675173, x675174, ht675175⟩ := hp675167
  have hfr675183 : rFr [] P675095 F675096 F675176 := rFr_call hsb675141 hfr675164 hfr675178 (fun b hb hn => ⟨nm_n, (nm_c (fun e => hq675120 (e ▸ hb)) (nm_c (fun e => hq675140 (e ▸ hb)) nm_n))⟩)
  change G _ _ _ _ _ _ _ (.ref q675107 :: _) _ _ _
  refine G_widen (cs' := 2) (sl' := 20) (by omega) (by omega) ?_
  refine G_ldcK (a := D.2 1000 43) dr_cX17_operation_18 (fun _ _ _ h => gx_vk 43 rfl rfl h) ?_
  have hl43_675183 : (sb_43.length : Int) = 1 := rfl
  refine Gw_callV (As := [.ref (D.2 1000 43)]) (gV_ok D I) (cp_659417_StringBuilder_append l hl0 D I P675129 F675176 q675107 q675128 (D.2 1000 43) (D.2 1001 43) sb_43 0 o675170 f675171 16 hm675139 hm675135 he675179 he675181 (gx_sc 43 rfl rfl) (by omega) (by decide +kernel) (gB_w (gBl (show Int32.toInt 0 = 0 by decide)) (by decide) (by decide)) bo675170 bf675171 (by have qa0 : Int32.toInt 0 = 0 := (by decide); omega) (by have qa0 : Int32.toInt 0 = 0 := (by decide); omega)) dr_cX17_operation_20 ⟨wr_10_100, wr_1_20, wr_8_143, by decide, rfl, (Nat.le_of_ble_eq_true rfl), (Nat.le_of_ble_eq_true rfl)⟩ wr_8_141 wr_8_142 hm675139 he675179 rfl (show 2 + 0 ≤ 8 by first | omega | decide) (show 20 + 0 ≤ 64 by first | omega | decide) (Nat.le_of_ble_eq_true rfl) (fun r675188 w675189 dc675185 ds675186 hp675187 => ?_) (fun _ _ _ _ _ z => z.elim)
  obtain ⟨F675196, o675190, f675191, rfl, rfl, hfr675198, he675199, he675200, hdc, hds, bo675190, bf675191, x675192, x675193, x675194, ht675195⟩ := hp675187
  have he675201 : F675196 q675097 = .inr (0, [.ref q675098, .int 0, .int p675099, .int p675100]) := (hfr675198 q675097 hm675137 (nm_c (fun h => hq675120 (h ▸ hmq675097)) (nm_c (fun h => hq675140 (h ▸ hmq675097)) nm_n))).trans he675180
  have he675202 : F675196 q675098 = .inl (I .byte, n675102, .inl f675101) := (hfr675198 q675098 hm675138 (nm_c (fun h => hq675120 (h ▸ hmq675098)) (nm_c (fun h => hq675140 (h ▸ hmq675098)) nm_n))).trans he675182
  have hfr675203 : rFr [] P675095 F675096 F675196 := rFr_call hsb675141 hfr675183 hfr675198 (fun b hb hn => ⟨nm_n, (nm_c (fun e => hq675120 (e ▸ hb)) (nm_c (fun e => hq675140 (e ▸ hb)) nm_n))⟩)
  change G _ _ _ _ _ _ _ (.ref q675107 :: _) _ _ _
  refine G_widen (cs' := 2) (sl' := 20) (by omega) (by omega) ?_
  refine Gw_callV (As := []) (gV_ok D I) (cp_659890_StringBuilder_toString l hl0 D I P675129 F675196 q675107 q675128 0 o675190 f675191 16 hm675139 hm675135 he675199 he675200 (gB_w (gBl (show Int32.toInt 0 = 0 by decide)) (by decide) (by decide)) bo675190 bf675191 (by have qa0 : Int32.toInt 0 = 0 := (by decide); omega) (by have qa0 : Int32.toInt 0 = 0 := (by decide); omega)) dr_cX17_operation_23 ⟨wr_10_101, wr_1_20, wr_8_69, by decide, rfl, (Nat.le_of_ble_eq_true rfl), (Nat.le_of_ble_eq_true rfl)⟩ wr_8_67 wr_8_68 hm675139 he675199 rfl (show 2 + 2 ≤ 8 by first | omega | decide) (show 20 + (o675190.toInt.toNat + 4) ≤ 64 by first | omega | decide) (Nat.le_of_ble_eq_true rfl) (fun r675207 w675208 dc675204 ds675205 hp675206 => ?_) (fun _ _ _ _ _ z => z.elim)
  obtain ⟨P675216, F675217, q675209, q675210, n675211, f675212, rfl, rfl, hsb675218, hfr675219, he675220, he675221, he675222, he675223, hm675224, hq675225, hm675226, hq675227, hdc, hds, bf675212, x675213, x675214, ht675215⟩ := hp675206
  have hm675228 : q675097 ∈ P675216 := hsb675218 q675097 hm675137
  have hm675229 : q675098 ∈ P675216 := hsb675218 q675098 hm675138
  have hm675230 : q675107 ∈ P675216 := hsb675218 q675107 hm675139
  have hm675231 : q675128 ∈ P675216 := hsb675218 q675128 hm675135
  have hq675232 : q675209 ∉ P675095 := fun z => hq675225 (hsb675141 q675209 z)
  have hq675233 : q675210 ∉ P675095 := fun z => hq675227 (hsb675141 q675210 z)
  have hsb675234 : rSub P675095 P675216 := rSub_tr hsb675141 hsb675218
  have he675235 : F675217 q675097 = .inr (0, [.ref q675098, .int 0, .int p675099, .int p675100]) := (hfr675219 q675097 hm675137 nm_n).trans he675201
  have he675236 : F675217 q675098 = .inl (I .byte, n675102, .inl f675101) := (hfr675219 q675098 hm675138 nm_n).trans he675202
  have hfr675237 : rFr [] P675095 F675096 F675217 := rFr_call hsb675141 hfr675203 hfr675219 (fun b hb hn => ⟨nm_n, nm_n⟩)
  have hne675238 : q675128 ≠ q675210 := fun h => hq675227 (h ▸ hm675135)
  change G _ _ _ _ _ _ _ (.ref q675209 :: _) _ _ _
  refine G_widen (cs' := 4) (sl' := 20 + (o675190.toInt.toNat + 4)) (by omega) (by omega) ?_
  refine Gw_callVk (As := [.ref q675209]) (gV_ok D I) (cp_660349_String_indexOf l hl0 D I P675216 F675217 q675209 q675210 (D.2 1000 42) (D.2 1001 42) sb_42 0 0 f675212 n675211 hm675224 hm675226 he675220 he675223 (gx_sc 42 rfl rfl) (by omega) (by decide +kernel) (gB_w (gBl (show Int32.toInt 0 = 0 by decide)) (by decide) (by decide)) bf675212 (by have qa0 : Int32.toInt 0 = 0 := (by decide); omega) (by have qa0 : Int32.toInt 0 = 0 := (by decide); omega)) dr_cX17_operation_26 ⟨wr_10_102, wr_1_21, wr_8_199, by decide, rfl, (Nat.le_of_ble_eq_true rfl), (Nat.le_of_ble_eq_true rfl)⟩ wr_8_197 wr_8_198 (fun _ _ _ h => ((gx_sc 42 rfl rfl) _ _ _ h).1) (show 4 + 0 ≤ 8 by first | omega | decide) (show 20 + (o675190.toInt.toNat + 4) + 0 ≤ 64 by first | omega | decide) (Nat.le_of_ble_eq_true rfl) (fun r675242 w675243 dc675239 ds675240 hp675241 => ?_) (fun _ _ _ _ _ z => z.elim)
  obtain ⟨o675244, rfl, rfl, hdc, hds, bo675244, x675245, x675246, ht675247⟩ := hp675241
  change G _ _ _ _ _ _ _ (.int o675244 :: _) _ _ _
  refine G_widen (cs' := 4) (sl' := 20 + (o675190.toInt.toNat + 4) + 0) (by omega) (by omega) ?_
  refine G_istore_n (L' := [(1, .int o675244), (0, .ref q675097)]) dr_cX17_operation_29 (Nat.le_of_ble_eq_true rfl) rfl ?_
  refine G_iload_n 0 dr_cX17_operation_30 rfl ?_
  refine G_if_ge 36 dr_cX17_operation_31 (by decide +kernel) (fun hc675248 => ?_) (fun hc675248 => ?_)
  · have r675249 : 0 ≤ o675244.toInt := gj_leL hc675248 (show Int32.toInt 0 = 0 by decide)
    have bo675244' : gB o675244 0 16777215 := ⟨by omega, by omega⟩
    have x675250 : o675244.toInt ≤ 30 := opA x675155 x675173 x675193 x675214 x675246 (by omega) (by omega) rfl (by omega) (by omega) (by omega) (by omega) (by omega)
    refine G_iconst 1 dr_cX17_operation_36 (by decide +kernel) ?_
    refine G_istore_n (L' := [(2, .int 1), (1, .int o675244), (0, .ref q675097)]) dr_cX17_operation_37 (Nat.le_of_ble_eq_true rfl) rfl ?_
    refine G_iconst 0 dr_cX17_operation_38 (by decide +kernel) ?_
    refine G_istore_n (L' := [(3, .int 0), (2, .int 1), (1, .int o675244), (0, .ref q675097)]) dr_cX17_operation_39 (Nat.le_of_ble_eq_true rfl) rfl ?_
    have hlp40_675435 : ∀ (n40_675435 : Nat) (g675432 : Int32) (g675433 : Int32), gB g675432 0 16777215 → opI g675432 g675433 → g675432.toInt ≤ o675244.toInt → (∀ (k : Nat) (e1 : Int32), tl_RModel_operation_40 o675244 g675432 g675433 k e1 → tl_RModel_operation_40 o675244 (0 : Int32) (1 : Int32) k e1) → ((16777216 : Int) - g675432.toInt).toNat < n40_675435 → G (gV D I) l (gRm 6 132 8 64) (gMA (gV D I) (pp_675105_SpillForgeModel_operation D I P675095 F675096 q675097 q675098 p675099 p675100 f675101 n675102) gNA 8 64) ky_675105_SpillForgeModel_operation 40 [(3, .int g675432), (2, .int g675433), (1, .int o675244), (0, .ref q675097)] [] (va_pl P675216 F675217) 4 (20 + (o675190.toInt.toNat + 4) + 0) := by
      intro n40_675435
      induction n40_675435 with
      | zero => intro g675432 g675433 bg675432 x675434 x675435 kt40_675435 hm40_675435; exact absurd hm40_675435 (Nat.not_lt_zero _)
      | succ n40_675435 ih40_675435 =>
        intro g675432 g675433 bg675432 x675434 x675435 kt40_675435 hm40_675435
        have bg675433 := gB_any g675433
        refine G_iload_n 0 dr_cX17_operation_40 rfl ?_
        refine G_iload_n 2 dr_cX17_operation_41 rfl ?_
        refine G_icmp_ge 70 dr_cX17_operation_42 (by decide +kernel) (fun hc675436 => ?_) (fun hc675436 => ?_)
        · have r675437 : o675244.toInt ≤ g675432.toInt := gC_le hc675436
          have hx675438 : tl_RModel_operation_40 o675244 (0 : Int32) (1 : Int32) 70 g675433 := kt40_675435 70 g675433 (fun R c1 c2 c3 => c1 g675432 g675433 bg675432 r675437)
          have bx675439 : gB g675433 1 14 := opI_b x675434 (by omega)
          refine G_iload_n 1 dr_cX17_operation_70 rfl ?_
          exact G_iretA dr_cX17_operation_71 rfl (Nat.le_of_ble_eq_true rfl) (show 20 + (o675190.toInt.toNat + 4) + 0 ≤ 64 by omega) ⟨P675216, F675217, g675433, rfl, rfl, hsb675234, hfr675237, he675235, he675236, (Nat.le_of_ble_eq_true rfl), (by omega), (gB_w bx675439 (by decide) (by decide)), (by have qa0 : Int32.toInt 0 = 0 := (by decide); omega), (by have qa0 : Int32.toInt 0 = 0 := (by decide); omega), (fun R c1 c2 => c1 o675151 f675152 o675170 f675171 o675190 f675191 n675211 f675212 o675244 g675433 bo675151 ht675156 bo675170 ht675175 bo675190 ht675195 ht675215 bo675244 ht675247 r675249 hx675438)⟩
        · have r675440 : g675432.toInt < o675244.toInt := gC_nle hc675436
          have bg675432' : gB g675432 0 16777214 := ⟨by omega, by omega⟩
          have bo675244'' : gB o675244 1 16777215 := ⟨by omega, by omega⟩
          have bx675441 : gB g675433 1 14 := opI_b x675434 (by omega)
          refine G_iload_n 1 dr_cX17_operation_45 rfl ?_
          refine G_ldcK (a := D.2 1000 42) dr_cX17_operation_46 (fun _ _ _ h => gx_vk 42 rfl rfl h) ?_
          have hl42_675441 : (sb_42.length : Int) = 34 := rfl
          refine G_iload_n 0 dr_cX17_operation_48 rfl ?_
          refine Gw_callVk (As := [.int g675432]) (gV_ok D I) (cp_675262_String_charAt l hl0 D I P675216 F675217 (D.2 1000 42) (D.2 1001 42) sb_42 g675432 (gx_sc 42 rfl rfl) (by omega) (by decide +kernel) ⟨by omega, by omega⟩ (by have qa0 : Int32.toInt 0 = 0 := (by decide); omega)) dr_cX17_operation_49 ⟨wr_10_103, wr_1_21, wr_3_70, by decide, rfl, (Nat.le_of_ble_eq_true rfl), (Nat.le_of_ble_eq_true rfl)⟩ wr_3_68 wr_3_69 (fun _ _ _ h => ((gx_sc 42 rfl rfl) _ _ _ h).1) (show 4 + 0 ≤ 8 by first | omega | decide) (show 20 + (o675190.toInt.toNat + 4) + 0 + 0 ≤ 64 by first | omega | decide) (Nat.le_of_ble_eq_true rfl) (fun r675446 w675447 dc675443 ds675444 hp675445 => ?_) (fun _ _ _ _ _ z => z.elim)
          obtain ⟨o675448, rfl, rfl, hdc, hds, bo675448, x675449, ht675450⟩ := hp675445
          change G _ _ _ _ _ _ _ (.int o675448 :: _) _ _ _
          refine G_widen (cs' := 4) (sl' := 20 + (o675190.toInt.toNat + 4) + 0 + 0) (by omega) (by omega) ?_
          refine G_bipush 32 dr_cX17_operation_52 (by decide +kernel) ?_
          refine G_icmp_ne 61 dr_cX17_operation_54 (by decide +kernel) (fun hc675451 => ?_) (fun hc675451 => ?_)
          · have r675452 : o675448.toInt ≠ 32 := gj_neq hc675451 (show Int32.toInt 32 = 32 by decide)
            refine G_iconst 0 dr_cX17_operation_61 (by decide +kernel) ?_
            refine G_iadd dr_cX17_operation_62 (G_nam fun z675453 hz675453 => ?_)
            have ez675453 : z675453.toInt = g675433.toInt + 0 := by rw [gI_add hz675453 bx675441 (gBl (show Int32.toInt 0 = 0 by decide)) (by decide) (by decide), show Int32.toInt 0 = 0 from by decide]
            have bz675453 : gB z675453 1 14 := gB_add (gI_add hz675453 bx675441 (gBl (show Int32.toInt 0 = 0 by decide)) (by decide) (by decide)) bx675441 (gBl (show Int32.toInt 0 = 0 by decide)) (by decide) (by decide)
            refine G_istore_n (L' := [(2, .int z675453), (3, .int g675432), (1, .int o675244), (0, .ref q675097)]) dr_cX17_operation_63 (Nat.le_of_ble_eq_true rfl) rfl ?_
            obtain ⟨z675454, hz675454⟩ : ∃ z : Int32, z = g675432 + Int32.ofInt 1 := ⟨_, rfl⟩
            have ez675454 : z675454.toInt = g675432.toInt + 1 := gI_inc hz675454 (by decide) bg675432' (by decide) (by decide)
            have bz675454 : gB z675454 1 16777215 := ⟨by omega, by omega⟩
            refine G_iinc (L' := [(3, .int z675454), (2, .int z675453), (1, .int o675244), (0, .ref q675097)]) z675454 1 dr_cX17_operation_64 rfl hz675454.symm (Nat.le_of_ble_eq_true rfl) rfl ?_
            refine G_goto 40 dr_cX17_operation_67 (by decide +kernel) ?_
            exact ih40_675435 z675454 z675453 (gB_w bz675454 (by decide) (by decide)) (by have qa0 : Int32.toInt 0 = 0 := (by decide); have qa1 : Int32.toInt 1 = 1 := (by decide); first | exact opI_st (d := 1) x675434 (by omega) (by omega) (by omega) x675449 (Or.inl ⟨by omega, rfl⟩) | exact opI_st (d := 0) x675434 (by omega) (by omega) (by omega) x675449 (Or.inr ⟨by omega, rfl⟩)) (by have qa0 : Int32.toInt 0 = 0 := (by decide); omega) (fun k e1 ht => kt40_675435 k e1 (fun R c1 c2 c3 => c2 g675432 g675433 o675448 z675453 z675454 k e1 bg675432 r675440 bo675448 ht675450 r675452 ez675453 ez675454 (ht R c1 c2 c3))) (by have qa0 : Int32.toInt 0 = 0 := (by decide); omega)
          · have r675455 : o675448.toInt = 32 := gj_eq hc675451 (show Int32.toInt 32 = 32 by decide)
            have bo675448' : gB o675448 32 32 := ⟨by omega, by omega⟩
            refine G_iconst 1 dr_cX17_operation_57 (by decide +kernel) ?_
            refine G_goto 62 dr_cX17_operation_58 (by decide +kernel) ?_
            refine G_iadd dr_cX17_operation_62 (G_nam fun z675456 hz675456 => ?_)
            have ez675456 : z675456.toInt = g675433.toInt + 1 := by rw [gI_add hz675456 bx675441 (gBl (show Int32.toInt 1 = 1 by decide)) (by decide) (by decide), show Int32.toInt 1 = 1 from by decide]
            have bz675456 : gB z675456 2 15 := gB_add (gI_add hz675456 bx675441 (gBl (show Int32.toInt 1 = 1 by decide)) (by decide) (by decide)) bx675441 (gBl (show Int32.toInt 1 = 1 by decide)) (by decide) (by decide)
            refine G_istore_n (L' := [(2, .int z675456), (3, .int g675432), (1, .int o675244), (0, .ref q675097)]) dr_cX17_operation_63 (Nat.le_of_ble_eq_true rfl) rfl ?_
            obtain ⟨z675457, hz675457⟩ : ∃ z : Int32, z = g675432 + Int32.ofInt 1 := ⟨_, rfl⟩
            have ez675457 : z675457.toInt = g675432.toInt + 1 := gI_inc hz675457 (by decide) bg675432' (by decide) (by decide)
            have bz675457 : gB z675457 1 16777215 := ⟨by omega, by omega⟩
            refine G_iinc (L' := [(3, .int z675457), (2, .int z675456), (1, .int o675244), (0, .ref q675097)]) z675457 1 dr_cX17_operation_64 rfl hz675457.symm (Nat.le_of_ble_eq_true rfl) rfl ?_
            refine G_goto 40 dr_cX17_operation_67 (by decide +kernel) ?_
            exact ih40_675435 z675457 z675456 (gB_w bz675457 (by decide) (by decide)) (by have qa0 : Int32.toInt 0 = 0 := (by decide); have qa1 : Int32.toInt 1 = 1 := (by decide); first | exact opI_st (d := 1) x675434 (by omega) (by omega) (by omega) x675449 (Or.inl ⟨by omega, rfl⟩) | exact opI_st (d := 0) x675434 (by omega) (by omega) (by omega) x675449 (Or.inr ⟨by omega, rfl⟩)) (by have qa0 : Int32.toInt 0 = 0 := (by decide); omega) (fun k e1 ht => kt40_675435 k e1 (fun R c1 c2 c3 => c3 g675432 g675433 o675448 z675456 z675457 k e1 bg675432 r675440 bo675448 ht675450 r675455 ez675456 ez675457 (ht R c1 c2 c3))) (by have qa0 : Int32.toInt 0 = 0 := (by decide); omega)
    exact hlp40_675435 (((16777216 : Int) - 0).toNat + 1) 0 1 (gB_w (gBl (show Int32.toInt 0 = 0 by decide)) (by decide) (by decide)) opI_0 (by have qa0 : Int32.toInt 0 = 0 := (by decide); have qa1 : Int32.toInt 1 = 1 := (by decide); omega) (fun k e1 ht => ht) (Nat.lt_succ_self _)
  · have r675458 : o675244.toInt < 0 := gj_nleL hc675248 (show Int32.toInt 0 = 0 by decide)
    have bo675244' : gB o675244 (-2147483646) (-1) := ⟨by omega, by omega⟩
    refine G_iconst 0 dr_cX17_operation_34 (by decide +kernel) ?_
    exact G_iretA dr_cX17_operation_35 rfl (Nat.le_of_ble_eq_true rfl) (show 20 + (o675190.toInt.toNat + 4) + 0 ≤ 64 by omega) ⟨P675216, F675217, 0, rfl, rfl, hsb675234, hfr675237, he675235, he675236, (Nat.le_of_ble_eq_true rfl), (by omega), (gB_w (gBl (show Int32.toInt 0 = 0 by decide)) (by decide) (by decide)), (by have qa0 : Int32.toInt 0 = 0 := (by decide); omega), (by have qa0 : Int32.toInt 0 = 0 := (by decide); omega), (fun R c1 c2 => c2 o675151 f675152 o675170 f675171 o675190 f675191 n675211 f675212 o675244 bo675151 ht675156 bo675170 ht675175 bo675190 ht675195 ht675215 bo675244 ht675247 r675458)⟩
/- tr_RArrays_copyOf4: a.2.[] -/
def tr_RArrays_copyOf4 (a1 : Int32) (a0_v : Nat → Int32) (a0_n : Nat) (o1 : Nat → Int32) : Prop := ∀ R : (Nat → Int32) → Prop,
  (∀ (x1 : Int32) (x2 : Int32) (x3 : Int32) (x4 : Nat → Int32), x1.toInt = (a0_n : Nat) → a1.toInt ≠ x1.toInt → x2.toInt = (a0_n : Nat) → (x2.toInt ≥ x3.toInt ∧ a1.toInt ≥ x3.toInt ∧ (x3.toInt = x2.toInt ∨ x3.toInt = a1.toInt)) → (x4 = va_cpy a0_v (fun _ => 0) (0 : Int32).toNatClampNeg (0 : Int32).toNatClampNeg x3.toNatClampNeg) → R x4) →
  R o1
