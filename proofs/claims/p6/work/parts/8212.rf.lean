theorem dr_cX14_breaks_0 : decode cX14_breaks 0 = .ok (.aload_n 0, 1) := by decide +kernel
theorem dr_cX14_breaks_1 : decode cX14_breaks 1 = .ok (.getfield 17, 3) := by decide +kernel
theorem wr_9_44 : (Jvm.Cond.fieldLink "SpillForgeModel$Reader" (17 : Nat) "SpillForgeModel$Reader" "rulePlace" "I") ∈ gw := gw_9 44 rfl rfl
theorem dr_cX14_breaks_4 : decode cX14_breaks 4 = .ok (.ifCond .lt 27, 3) := by decide +kernel
theorem dr_cX14_breaks_31 : decode cX14_breaks 31 = .ok (.aload_n 0, 1) := by decide +kernel
theorem dr_cX14_breaks_32 : decode cX14_breaks 32 = .ok (.iload_n 2, 1) := by decide +kernel
theorem dr_cX14_breaks_33 : decode cX14_breaks 33 = .ok (.putfield 17, 3) := by decide +kernel
theorem dr_cX14_breaks_36 : decode cX14_breaks 36 = .ok (.aload_n 0, 1) := by decide +kernel
theorem dr_cX14_breaks_37 : decode cX14_breaks 37 = .ok (.iload_n 1, 1) := by decide +kernel
theorem dr_cX14_breaks_38 : decode cX14_breaks 38 = .ok (.putfield 140, 3) := by decide +kernel
theorem wr_9_46 : (Jvm.Cond.fieldLink "SpillForgeModel$Reader" (140 : Nat) "SpillForgeModel$Reader" "rule" "I") ∈ gw := gw_9 46 rfl rfl
theorem dr_cX14_breaks_41 : decode cX14_breaks 41 = .ok (.return_, 1) := by decide +kernel
theorem dr_cX14_breaks_7 : decode cX14_breaks 7 = .ok (.iload_n 2, 1) := by decide +kernel
theorem dr_cX14_breaks_8 : decode cX14_breaks 8 = .ok (.aload_n 0, 1) := by decide +kernel
theorem dr_cX14_breaks_9 : decode cX14_breaks 9 = .ok (.getfield 17, 3) := by decide +kernel
theorem dr_cX14_breaks_12 : decode cX14_breaks 12 = .ok (.if_icmp .lt 19, 3) := by decide +kernel
theorem dr_cX14_breaks_15 : decode cX14_breaks 15 = .ok (.iload_n 2, 1) := by decide +kernel
theorem dr_cX14_breaks_16 : decode cX14_breaks 16 = .ok (.aload_n 0, 1) := by decide +kernel
theorem dr_cX14_breaks_17 : decode cX14_breaks 17 = .ok (.getfield 17, 3) := by decide +kernel
theorem dr_cX14_breaks_20 : decode cX14_breaks 20 = .ok (.if_icmp .ne 21, 3) := by decide +kernel
theorem dr_cX14_breaks_23 : decode cX14_breaks 23 = .ok (.iload_n 1, 1) := by decide +kernel
theorem dr_cX14_breaks_24 : decode cX14_breaks 24 = .ok (.aload_n 0, 1) := by decide +kernel
theorem dr_cX14_breaks_25 : decode cX14_breaks 25 = .ok (.getfield 140, 3) := by decide +kernel
theorem dr_cX14_breaks_28 : decode cX14_breaks 28 = .ok (.if_icmp .ge 13, 3) := by decide +kernel
theorem dr_cX14_operand_0 : decode cX14_operand 0 = .ok (.aload_n 0, 1) := by decide +kernel
theorem dr_cX14_operand_1 : decode cX14_operand 1 = .ok (.getfield 38, 3) := by decide +kernel
theorem dr_cX14_operand_4 : decode cX14_operand 4 = .ok (.iconst 2, 1) := by decide +kernel
theorem dr_cX14_operand_5 : decode cX14_operand 5 = .ok (.if_icmp .ne 7, 3) := by decide +kernel
theorem dr_cX14_operand_12 : decode cX14_operand 12 = .ok (.iconst 0, 1) := by decide +kernel
theorem dr_cX14_operand_13 : decode cX14_operand 13 = .ok (.istore_n 3, 1) := by decide +kernel
theorem dr_cX14_operand_14 : decode cX14_operand 14 = .ok (.iload_n 3, 1) := by decide +kernel
theorem dr_cX14_operand_15 : decode cX14_operand 15 = .ok (.ifCond .ne 16, 3) := by decide +kernel
theorem dr_cX14_operand_18 : decode cX14_operand 18 = .ok (.aload_n 0, 1) := by decide +kernel
theorem dr_cX14_operand_19 : decode cX14_operand 19 = .ok (.getfield 38, 3) := by decide +kernel
theorem dr_cX14_operand_22 : decode cX14_operand 22 = .ok (.iconst 4, 1) := by decide +kernel
theorem dr_cX14_operand_23 : decode cX14_operand 23 = .ok (.if_icmp .eq 8, 3) := by decide +kernel
theorem dr_cX14_operand_31 : decode cX14_operand 31 = .ok (.iload_n 2, 1) := by decide +kernel
theorem dr_cX14_operand_32 : decode cX14_operand 32 = .ok (.ifCond .eq 19, 3) := by decide +kernel
theorem dr_cX14_operand_51 : decode cX14_operand 51 = .ok (.aload_n 1, 1) := by decide +kernel
theorem dr_cX14_operand_52 : decode cX14_operand 52 = .ok (.aload_n 0, 1) := by decide +kernel
theorem dr_cX14_operand_53 : decode cX14_operand 53 = .ok (.getfield 80, 3) := by decide +kernel
theorem dr_cX14_operand_56 : decode cX14_operand 56 = .ok (.putfield 214, 3) := by decide +kernel
theorem wr_9_187 : (Jvm.Cond.fieldLink "SpillForgeModel$Reader" (214 : Nat) "SpillForgeModel$Row" "a" "I") ∈ gw := gw_9 187 rfl rfl
theorem dr_cX14_operand_59 : decode cX14_operand 59 = .ok (.aload_n 1, 1) := by decide +kernel
theorem dr_cX14_operand_60 : decode cX14_operand 60 = .ok (.iload_n 3, 1) := by decide +kernel
theorem dr_cX14_operand_61 : decode cX14_operand 61 = .ok (.putfield 217, 3) := by decide +kernel
theorem wr_9_198 : (Jvm.Cond.fieldLink "SpillForgeModel$Reader" (217 : Nat) "SpillForgeModel$Row" "regA" "Z") ∈ gw := gw_9 198 rfl rfl
theorem dr_cX14_operand_64 : decode cX14_operand 64 = .ok (.aload_n 0, 1) := by decide +kernel
theorem dr_cX14_operand_65 : decode cX14_operand 65 = .ok (.invokevirtual 35, 3) := by decide +kernel
theorem dr_cX14_operand_68 : decode cX14_operand 68 = .ok (.return_, 1) := by decide +kernel
theorem dr_cX14_operand_35 : decode cX14_operand 35 = .ok (.aload_n 1, 1) := by decide +kernel
theorem dr_cX14_operand_36 : decode cX14_operand 36 = .ok (.aload_n 0, 1) := by decide +kernel
theorem dr_cX14_operand_37 : decode cX14_operand 37 = .ok (.getfield 80, 3) := by decide +kernel
theorem dr_cX14_operand_40 : decode cX14_operand 40 = .ok (.putfield 205, 3) := by decide +kernel
theorem wr_9_191 : (Jvm.Cond.fieldLink "SpillForgeModel$Reader" (205 : Nat) "SpillForgeModel$Row" "b" "I") ∈ gw := gw_9 191 rfl rfl
theorem dr_cX14_operand_43 : decode cX14_operand 43 = .ok (.aload_n 1, 1) := by decide +kernel
theorem dr_cX14_operand_44 : decode cX14_operand 44 = .ok (.iload_n 3, 1) := by decide +kernel
theorem dr_cX14_operand_45 : decode cX14_operand 45 = .ok (.putfield 210, 3) := by decide +kernel
theorem wr_9_201 : (Jvm.Cond.fieldLink "SpillForgeModel$Reader" (210 : Nat) "SpillForgeModel$Row" "regB" "Z") ∈ gw := gw_9 201 rfl rfl
theorem dr_cX14_operand_48 : decode cX14_operand 48 = .ok (.goto 16, 3) := by decide +kernel
theorem dr_cX14_operand_26 : decode cX14_operand 26 = .ok (.aload_n 0, 1) := by decide +kernel
theorem dr_cX14_operand_27 : decode cX14_operand 27 = .ok (.invokevirtual 136, 3) := by decide +kernel
theorem dr_cX14_operand_30 : decode cX14_operand 30 = .ok (.athrow, 1) := by decide +kernel
theorem dr_cX14_operand_8 : decode cX14_operand 8 = .ok (.iconst 1, 1) := by decide +kernel
theorem dr_cX14_operand_9 : decode cX14_operand 9 = .ok (.goto 4, 3) := by decide +kernel
theorem dr_cX17_operation_0 : decode cX17_operation 0 = .ok (.ldc 3, 2) := by decide +kernel
theorem dr_cX17_operation_2 : decode cX17_operation 2 = .ok (.new 5, 3) := by decide +kernel
theorem wr_7_43 : (Jvm.Cond.classLink "SpillForgeModel" (5 : Nat) "java/lang/StringBuilder") ∈ gw := gw_7 43 rfl rfl
theorem dr_cX17_operation_5 : decode cX17_operation 5 = .ok (.dup, 1) := by decide +kernel
theorem dr_cX17_operation_6 : decode cX17_operation 6 = .ok (.invokespecial 7, 3) := by decide +kernel
theorem wr_7_45 : (Jvm.Cond.methodLink "SpillForgeModel" (7 : Nat) ({ cls := "java/lang/StringBuilder", name := "<init>", desc := "()V" } : Jvm.MethodName)) ∈ gw := gw_7 45 rfl rfl
theorem dr_cX17_operation_9 : decode cX17_operation 9 = .ok (.ldc 11, 2) := by decide +kernel
theorem dr_cX17_operation_11 : decode cX17_operation 11 = .ok (.invokevirtual 13, 3) := by decide +kernel
theorem wr_10_100 : (Jvm.Cond.methodLink "SpillForgeModel" (13 : Nat) ({ cls := "java/lang/StringBuilder", name := "append", desc := "(Ljava/lang/String;)Ljava/lang/StringBuilder;" } : Jvm.MethodName)) ∈ gw := gw_10 100 rfl rfl
theorem dr_cX17_operation_14 : decode cX17_operation 14 = .ok (.aload_n 0, 1) := by decide +kernel
theorem dr_cX17_operation_15 : decode cX17_operation 15 = .ok (.invokevirtual 13, 3) := by decide +kernel
theorem dr_cX17_operation_18 : decode cX17_operation 18 = .ok (.ldc 11, 2) := by decide +kernel
theorem dr_cX17_operation_20 : decode cX17_operation 20 = .ok (.invokevirtual 13, 3) := by decide +kernel
theorem dr_cX17_operation_23 : decode cX17_operation 23 = .ok (.invokevirtual 17, 3) := by decide +kernel
theorem wr_10_101 : (Jvm.Cond.methodLink "SpillForgeModel" (17 : Nat) ({ cls := "java/lang/StringBuilder", name := "toString", desc := "()Ljava/lang/String;" } : Jvm.MethodName)) ∈ gw := gw_10 101 rfl rfl
theorem dr_cX17_operation_26 : decode cX17_operation 26 = .ok (.invokevirtual 21, 3) := by decide +kernel
theorem wr_10_102 : (Jvm.Cond.methodLink "SpillForgeModel" (21 : Nat) ({ cls := "java/lang/String", name := "indexOf", desc := "(Ljava/lang/String;)I" } : Jvm.MethodName)) ∈ gw := gw_10 102 rfl rfl
theorem dr_cX17_operation_29 : decode cX17_operation 29 = .ok (.istore_n 1, 1) := by decide +kernel
theorem dr_cX17_operation_30 : decode cX17_operation 30 = .ok (.iload_n 1, 1) := by decide +kernel
theorem dr_cX17_operation_31 : decode cX17_operation 31 = .ok (.ifCond .ge 5, 3) := by decide +kernel
theorem dr_cX17_operation_36 : decode cX17_operation 36 = .ok (.iconst 1, 1) := by decide +kernel
theorem dr_cX17_operation_37 : decode cX17_operation 37 = .ok (.istore_n 2, 1) := by decide +kernel
theorem dr_cX17_operation_38 : decode cX17_operation 38 = .ok (.iconst 0, 1) := by decide +kernel
theorem dr_cX17_operation_39 : decode cX17_operation 39 = .ok (.istore_n 3, 1) := by decide +kernel
theorem dr_cX17_operation_40 : decode cX17_operation 40 = .ok (.iload_n 3, 1) := by decide +kernel
theorem dr_cX17_operation_41 : decode cX17_operation 41 = .ok (.iload_n 1, 1) := by decide +kernel
theorem dr_cX17_operation_42 : decode cX17_operation 42 = .ok (.if_icmp .ge 28, 3) := by decide +kernel
theorem dr_cX17_operation_70 : decode cX17_operation 70 = .ok (.iload_n 2, 1) := by decide +kernel
theorem dr_cX17_operation_71 : decode cX17_operation 71 = .ok (.ireturn, 1) := by decide +kernel
theorem dr_cX17_operation_45 : decode cX17_operation 45 = .ok (.iload_n 2, 1) := by decide +kernel
theorem dr_cX17_operation_46 : decode cX17_operation 46 = .ok (.ldc 3, 2) := by decide +kernel
theorem dr_cX17_operation_48 : decode cX17_operation 48 = .ok (.iload_n 3, 1) := by decide +kernel
theorem dr_cX17_operation_49 : decode cX17_operation 49 = .ok (.invokevirtual 27, 3) := by decide +kernel
theorem wr_10_103 : (Jvm.Cond.methodLink "SpillForgeModel" (27 : Nat) ({ cls := "java/lang/String", name := "charAt", desc := "(I)C" } : Jvm.MethodName)) ∈ gw := gw_10 103 rfl rfl
theorem wr_3_70 : (Jvm.Cond.code ({ cls := "java/lang/String", name := "charAt", desc := "(I)C" } : Jvm.MethodName) prog_34_method_56_code (2 : Nat) (Option.some Jvm.ClassFile.FieldType.char)) ∈ gw := gw_3 70 rfl rfl
theorem wr_3_68 : (Jvm.Cond.instanceMethod ({ cls := "java/lang/String", name := "charAt", desc := "(I)C" } : Jvm.MethodName)) ∈ gw := gw_3 68 rfl rfl
theorem wr_3_69 : (Jvm.Cond.selects "java/lang/String" ({ cls := "java/lang/String", name := "charAt", desc := "(I)C" } : Jvm.MethodName) ({ cls := "java/lang/String", name := "charAt", desc := "(I)C" } : Jvm.MethodName)) ∈ gw := gw_3 69 rfl rfl
theorem dr_cX17_operation_52 : decode cX17_operation 52 = .ok (.bipush 32, 2) := by decide +kernel
theorem dr_cX17_operation_54 : decode cX17_operation 54 = .ok (.if_icmp .ne 7, 3) := by decide +kernel
theorem dr_cX17_operation_61 : decode cX17_operation 61 = .ok (.iconst 0, 1) := by decide +kernel
theorem dr_cX17_operation_62 : decode cX17_operation 62 = .ok (.iadd, 1) := by decide +kernel
theorem dr_cX17_operation_63 : decode cX17_operation 63 = .ok (.istore_n 2, 1) := by decide +kernel
theorem dr_cX17_operation_64 : decode cX17_operation 64 = .ok (.iinc 3 1, 3) := by decide +kernel
theorem dr_cX17_operation_67 : decode cX17_operation 67 = .ok (.goto (-27), 3) := by decide +kernel
theorem dr_cX17_operation_57 : decode cX17_operation 57 = .ok (.iconst 1, 1) := by decide +kernel
theorem dr_cX17_operation_58 : decode cX17_operation 58 = .ok (.goto 4, 3) := by decide +kernel
theorem dr_cX17_operation_34 : decode cX17_operation 34 = .ok (.iconst 0, 1) := by decide +kernel
theorem dr_cX17_operation_35 : decode cX17_operation 35 = .ok (.ireturn, 1) := by decide +kernel
abbrev ky_674613_Reader_breaks : gKey := (cX14_breaks, 3, "SpillForgeModel$Reader", none, [], "breaks", fun _ _ => True)
def pp_674613_Reader_breaks (D : va_G) (I : FieldType → ClassId) (P674593 : List Nat) (F674594 : Nat → va_E) (q674595 : Nat) (q674596 : Nat) (p674597 : Int32) (p674598 : Int32) (p674599 : Int32) (p674600 : Int32) (p674601 : Int32) (p674602 : Int32) (p674603 : Int32) (p674604 : Int32) (qo674605 : Nat) (p674606 : Int32) (p674607 : Int32) (p674608 : Int32) (qo674609 : Nat) (qo674610 : Nat) (p674611 : Int32) (f674612 : Nat → Int32) : Option Value → va_W → Nat → Nat → Prop := fun r w dc ds => ∃ (F674665 : Nat → va_E) (o674662 : Int32) (o674663 : Int32), r = none ∧ w = va_pl P674593 F674665 ∧ rFr [q674595] P674593 F674594 F674665 ∧ F674665 q674595 = .inr (19, [.ref q674596, .int p674599, .int p674600, .int p674601, .int p674602, .int p674603, .int p674604, .ref qo674605, .int o674662, .int o674663, .int p674608, .ref qo674609, .ref qo674610, .int p674611]) ∧ F674665 q674596 = .inl (I .byte, 8192, .inl f674612) ∧ dc ≤ 0 ∧ ds ≤ 0 ∧ gB o674662 0 8192 ∧ gB o674663 0 4 ∧ tr_RReader_breaks p674597 p674598 p674606 p674607 o674662 o674663
set_option maxRecDepth 100000 in
set_option maxHeartbeats 4000000 in
theorem cp_674613_Reader_breaks (l : Launch) (hl0 : l.stackTraces = false) (D : va_G) (I : FieldType → ClassId) (P674593 : List Nat) (F674594 : Nat → va_E) (q674595 : Nat) (q674596 : Nat) (p674597 : Int32) (p674598 : Int32) (p674599 : Int32) (p674600 : Int32) (p674601 : Int32) (p674602 : Int32) (p674603 : Int32) (p674604 : Int32) (qo674605 : Nat) (p674606 : Int32) (p674607 : Int32) (p674608 : Int32) (qo674609 : Nat) (qo674610 : Nat) (p674611 : Int32) (f674612 : Nat → Int32) (hmq674595 : q674595 ∈ P674593) (hmq674596 : q674596 ∈ P674593) (heq674595 : F674594 q674595 = .inr (19, [.ref q674596, .int p674599, .int p674600, .int p674601, .int p674602, .int p674603, .int p674604, .ref qo674605, .int p674606, .int p674607, .int p674608, .ref qo674609, .ref qo674610, .int p674611])) (heq674596 : F674594 q674596 = .inl (I .byte, 8192, .inl f674612)) (bp674597 : gB p674597 0 4) (bp674598 : gB p674598 0 8192) (bp674599 : gB p674599 0 8192) (bp674600 : gB p674600 0 8192) (bp674601 : gB p674601 0 6) (bp674602 : gB p674602 0 8192) (bp674604 : gB p674604 0 6) (bp674606 : gB p674606 (-1) 8192) (bp674607 : gB p674607 0 4) (bp674608 : gB p674608 0 1000000) (bp674611 : gB p674611 0 1000000) (bf674612 : gF f674612 (-128) 127) : CtA (gV D I) l yX14_breaks cX14_breaks 3 none 0 0 0 0 [.ref q674595, .int p674597, .int p674598] (va_pl P674593 F674594) (pp_674613_Reader_breaks D I P674593 F674594 q674595 q674596 p674597 p674598 p674599 p674600 p674601 p674602 p674603 p674604 qo674605 p674606 p674607 p674608 qo674609 qo674610 p674611 f674612) gNA := by
  refine CtA_of hl0 (by decide) (Nat.le_of_ble_eq_true rfl) ?_
  have bp674603 := gB_any p674603
  refine G_aload_n 0 dr_cX14_breaks_0 rfl ?_
  refine Gp_get 8 hmq674595 heq674595 dr_cX14_breaks_1 (gk_X14 D I) (Nat.le_of_ble_eq_true rfl) wr_9_44 rfl ?_
  refine G_if_lt 31 dr_cX14_breaks_4 (by decide +kernel) (fun hc674614 => ?_) (fun hc674614 => ?_)
  · have r674615 : p674606.toInt < 0 := gj_lt hc674614 (show Int32.toInt 0 = 0 by decide)
    have bp674606' : gB p674606 (-1) (-1) := ⟨by omega, by omega⟩
    refine G_aload_n 0 dr_cX14_breaks_31 rfl ?_
    refine G_iload_n 2 dr_cX14_breaks_32 rfl ?_
    refine Gp_put 8 hmq674595 heq674595 dr_cX14_breaks_33 (gk_X14 D I) (Nat.le_of_ble_eq_true rfl) wr_9_44 rfl rfl rfl (Nat.le_of_ble_eq_true rfl) (fun F674616 e674617 n674618 => ?_)
    have he674619 : F674616 q674596 = .inl (I .byte, 8192, .inl f674612) := (n674618 q674596 (rn_ao heq674596 heq674595)).trans heq674596
    have he674620 : F674616 q674595 = .inr (19, [.ref q674596, .int p674599, .int p674600, .int p674601, .int p674602, .int p674603, .int p674604, .ref qo674605, .int p674598, .int p674607, .int p674608, .ref qo674609, .ref qo674610, .int p674611]) := e674617
    have hfr674621 : rFr [q674595] P674593 F674594 F674616 := rFr_put (rFr_rf (W := []) (P := P674593) (F := F674594)) n674618
    refine G_aload_n 0 dr_cX14_breaks_36 rfl ?_
    refine G_iload_n 1 dr_cX14_breaks_37 rfl ?_
    refine Gp_put 9 hmq674595 he674620 dr_cX14_breaks_38 (gk_X14 D I) (Nat.le_of_ble_eq_true rfl) wr_9_46 rfl rfl rfl (Nat.le_of_ble_eq_true rfl) (fun F674622 e674623 n674624 => ?_)
    have he674625 : F674622 q674596 = .inl (I .byte, 8192, .inl f674612) := (n674624 q674596 (rn_ao he674619 he674620)).trans he674619
    have he674626 : F674622 q674595 = .inr (19, [.ref q674596, .int p674599, .int p674600, .int p674601, .int p674602, .int p674603, .int p674604, .ref qo674605, .int p674598, .int p674597, .int p674608, .ref qo674609, .ref qo674610, .int p674611]) := e674623
    have hfr674627 : rFr [q674595] P674593 F674594 F674622 := rFr_put' List.mem_cons_self hfr674621 n674624
    exact G_vretA dr_cX14_breaks_41 rfl (Nat.le_of_ble_eq_true rfl) (Nat.le_of_ble_eq_true rfl) ⟨F674622, p674598, p674597, rfl, rfl, hfr674627, he674626, he674625, (Nat.le_of_ble_eq_true rfl), (Nat.le_of_ble_eq_true rfl), bp674598, bp674597, (fun R c1 c2 c3 c4 c5 => c1 r674615)⟩
  · have r674628 : 0 ≤ p674606.toInt := gj_nlt hc674614 (show Int32.toInt 0 = 0 by decide)
    have bp674606' : gB p674606 0 8192 := ⟨by omega, by omega⟩
    refine G_iload_n 2 dr_cX14_breaks_7 rfl ?_
    refine G_aload_n 0 dr_cX14_breaks_8 rfl ?_
    refine Gp_get 8 hmq674595 heq674595 dr_cX14_breaks_9 (gk_X14 D I) (Nat.le_of_ble_eq_true rfl) wr_9_44 rfl ?_
    refine G_icmp_lt 31 dr_cX14_breaks_12 (by decide +kernel) (fun hc674629 => ?_) (fun hc674629 => ?_)
    · have r674630 : p674598.toInt < p674606.toInt := gC_lt hc674629
      have bp674598' : gB p674598 0 8191 := ⟨by omega, by omega⟩
      have bp674606'' : gB p674606 1 8192 := ⟨by omega, by omega⟩
      refine G_aload_n 0 dr_cX14_breaks_31 rfl ?_
      refine G_iload_n 2 dr_cX14_breaks_32 rfl ?_
      refine Gp_put 8 hmq674595 heq674595 dr_cX14_breaks_33 (gk_X14 D I) (Nat.le_of_ble_eq_true rfl) wr_9_44 rfl rfl rfl (Nat.le_of_ble_eq_true rfl) (fun F674631 e674632 n674633 => ?_)
      have he674634 : F674631 q674596 = .inl (I .byte, 8192, .inl f674612) := (n674633 q674596 (rn_ao heq674596 heq674595)).trans heq674596
      have he674635 : F674631 q674595 = .inr (19, [.ref q674596, .int p674599, .int p674600, .int p674601, .int p674602, .int p674603, .int p674604, .ref qo674605, .int p674598, .int p674607, .int p674608, .ref qo674609, .ref qo674610, .int p674611]) := e674632
      have hfr674636 : rFr [q674595] P674593 F674594 F674631 := rFr_put (rFr_rf (W := []) (P := P674593) (F := F674594)) n674633
      refine G_aload_n 0 dr_cX14_breaks_36 rfl ?_
      refine G_iload_n 1 dr_cX14_breaks_37 rfl ?_
      refine Gp_put 9 hmq674595 he674635 dr_cX14_breaks_38 (gk_X14 D I) (Nat.le_of_ble_eq_true rfl) wr_9_46 rfl rfl rfl (Nat.le_of_ble_eq_true rfl) (fun F674637 e674638 n674639 => ?_)
      have he674640 : F674637 q674596 = .inl (I .byte, 8192, .inl f674612) := (n674639 q674596 (rn_ao he674634 he674635)).trans he674634
      have he674641 : F674637 q674595 = .inr (19, [.ref q674596, .int p674599, .int p674600, .int p674601, .int p674602, .int p674603, .int p674604, .ref qo674605, .int p674598, .int p674597, .int p674608, .ref qo674609, .ref qo674610, .int p674611]) := e674638
      have hfr674642 : rFr [q674595] P674593 F674594 F674637 := rFr_put' List.mem_cons_self hfr674636 n674639
      exact G_vretA dr_cX14_breaks_41 rfl (Nat.le_of_ble_eq_true rfl) (Nat.le_of_ble_eq_true rfl) ⟨F674637, p674598, p674597, rfl, rfl, hfr674642, he674641, he674640, (Nat.le_of_ble_eq_true rfl), (Nat.le_of_ble_eq_true rfl), (gB_w bp674598' (by decide) (by decide)), bp674597, (fun R c1 c2 c3 c4 c5 => c2 r674628 r674630)⟩
    · have r674643 : p674606.toInt ≤ p674598.toInt := gC_nlt hc674629
      refine G_iload_n 2 dr_cX14_breaks_15 rfl ?_
      refine G_aload_n 0 dr_cX14_breaks_16 rfl ?_
      refine Gp_get 8 hmq674595 heq674595 dr_cX14_breaks_17 (gk_X14 D I) (Nat.le_of_ble_eq_true rfl) wr_9_44 rfl ?_
      refine G_icmp_ne 41 dr_cX14_breaks_20 (by decide +kernel) (fun hc674644 => ?_) (fun hc674644 => ?_)
      · have r674645 : p674598.toInt ≠ p674606.toInt := gC_ne hc674644
        exact G_vretA dr_cX14_breaks_41 rfl (Nat.le_of_ble_eq_true rfl) (Nat.le_of_ble_eq_true rfl) ⟨F674594, p674606, p674607, rfl, rfl, (rFr_v (rFr_rf (W := []) (P := P674593) (F := F674594)) (fun b hn => nm_n)), heq674595, heq674596, (Nat.le_of_ble_eq_true rfl), (Nat.le_of_ble_eq_true rfl), bp674606', bp674607, (fun R c1 c2 c3 c4 c5 => c3 r674628 r674643 r674645)⟩
      · have r674646 : p674598.toInt = p674606.toInt := gC_eq hc674644
        refine G_iload_n 1 dr_cX14_breaks_23 rfl ?_
        refine G_aload_n 0 dr_cX14_breaks_24 rfl ?_
        refine Gp_get 9 hmq674595 heq674595 dr_cX14_breaks_25 (gk_X14 D I) (Nat.le_of_ble_eq_true rfl) wr_9_46 rfl ?_
        refine G_icmp_ge 41 dr_cX14_breaks_28 (by decide +kernel) (fun hc674647 => ?_) (fun hc674647 => ?_)
        · have r674648 : p674607.toInt ≤ p674597.toInt := gC_le hc674647
          exact G_vretA dr_cX14_breaks_41 rfl (Nat.le_of_ble_eq_true rfl) (Nat.le_of_ble_eq_true rfl) ⟨F674594, p674606, p674607, rfl, rfl, (rFr_v (rFr_rf (W := []) (P := P674593) (F := F674594)) (fun b hn => nm_n)), heq674595, heq674596, (Nat.le_of_ble_eq_true rfl), (Nat.le_of_ble_eq_true rfl), bp674606', bp674607, (fun R c1 c2 c3 c4 c5 => c4 r674628 r674643 r674646 r674648)⟩
        · have r674649 : p674597.toInt < p674607.toInt := gC_nle hc674647
          have bp674597' : gB p674597 0 3 := ⟨by omega, by omega⟩
          have bp674607' : gB p674607 1 4 := ⟨by omega, by omega⟩
          refine G_aload_n 0 dr_cX14_breaks_31 rfl ?_
          refine G_iload_n 2 dr_cX14_breaks_32 rfl ?_
          refine Gp_put 8 hmq674595 heq674595 dr_cX14_breaks_33 (gk_X14 D I) (Nat.le_of_ble_eq_true rfl) wr_9_44 rfl rfl rfl (Nat.le_of_ble_eq_true rfl) (fun F674650 e674651 n674652 => ?_)
          have he674653 : F674650 q674596 = .inl (I .byte, 8192, .inl f674612) := (n674652 q674596 (rn_ao heq674596 heq674595)).trans heq674596
          have he674654 : F674650 q674595 = .inr (19, [.ref q674596, .int p674599, .int p674600, .int p674601, .int p674602, .int p674603, .int p674604, .ref qo674605, .int p674598, .int p674607, .int p674608, .ref qo674609, .ref qo674610, .int p674611]) := e674651
          have hfr674655 : rFr [q674595] P674593 F674594 F674650 := rFr_put (rFr_rf (W := []) (P := P674593) (F := F674594)) n674652
          refine G_aload_n 0 dr_cX14_breaks_36 rfl ?_
          refine G_iload_n 1 dr_cX14_breaks_37 rfl ?_
          refine Gp_put 9 hmq674595 he674654 dr_cX14_breaks_38 (gk_X14 D I) (Nat.le_of_ble_eq_true rfl) wr_9_46 rfl rfl rfl (Nat.le_of_ble_eq_true rfl) (fun F674656 e674657 n674658 => ?_)
          have he674659 : F674656 q674596 = .inl (I .byte, 8192, .inl f674612) := (n674658 q674596 (rn_ao he674653 he674654)).trans he674653
          have he674660 : F674656 q674595 = .inr (19, [.ref q674596, .int p674599, .int p674600, .int p674601, .int p674602, .int p674603, .int p674604, .ref qo674605, .int p674598, .int p674597, .int p674608, .ref qo674609, .ref qo674610, .int p674611]) := e674657
          have hfr674661 : rFr [q674595] P674593 F674594 F674656 := rFr_put' List.mem_cons_self hfr674655 n674658
          exact G_vretA dr_cX14_breaks_41 rfl (Nat.le_of_ble_eq_true rfl) (Nat.le_of_ble_eq_true rfl) ⟨F674656, p674598, p674597, rfl, rfl, hfr674661, he674660, he674659, (Nat.le_of_ble_eq_true rfl), (Nat.le_of_ble_eq_true rfl), bp674598, (gB_w bp674597' (by decide) (by decide)), (fun R c1 c2 c3 c4 c5 => c5 r674628 r674643 r674646 r674649)⟩
/- tr_RReader_operand: a.0...at, a.0...kind, a.0...place, a.0...value, a.1...a, a.1...b, a.1...regA, a.1...regB -/
def tr_RReader_operand (a2 : Int32) (a0_n : Int32) (a0_at : Int32) (a0_kind : Int32) (a0_value : Int32) (a1_a : Int32) (a1_b : Int32) (a1_regA : Int32) (a1_regB : Int32) (a0_t_v : Nat → Int32) (o1 : Int32) (o2 : Int32) (o3 : Int32) (o4 : Int32) (o5 : Int32) (o6 : Int32) (o7 : Int32) (o8 : Int32) (o9 : gTx) : Prop := ∀ R : (Int32) → (Int32) → (Int32) → (Int32) → (Int32) → (Int32) → (Int32) → (Int32) → (gTx) → Prop,
  (∀ (x1 : gTx) (x2 : Int32) (x3 : Int32) (x4 : Int32) (x5 : Int32), a0_kind.toInt ≠ 2 → a0_kind.toInt = 4 → a2.toInt = 0 → gB x2 0 8192 → gB x3 0 6 → gB x4 0 8192 → tr_RReader_next a0_n a0_at a0_kind a0_value a0_t_v x2 x3 x4 x5 x1 → R x2 x3 x4 x5 a0_value a1_b (0 : Int32) a1_regB x1) →
  (∀ (x1 : gTx) (x2 : Int32) (x3 : Int32) (x4 : Int32) (x5 : Int32), a0_kind.toInt ≠ 2 → a0_kind.toInt = 4 → a2.toInt ≠ 0 → gB x2 0 8192 → gB x3 0 6 → gB x4 0 8192 → tr_RReader_next a0_n a0_at a0_kind a0_value a0_t_v x2 x3 x4 x5 x1 → R x2 x3 x4 x5 a1_a a0_value a1_regA (0 : Int32) x1) →
  (∀ (x1 : gTx) (x2 : Int32) (x3 : Int32) (x4 : Int32) (x5 : Int32), a0_kind.toInt = 2 → a2.toInt = 0 → gB x2 0 8192 → gB x3 0 6 → gB x4 0 8192 → tr_RReader_next a0_n a0_at a0_kind a0_value a0_t_v x2 x3 x4 x5 x1 → R x2 x3 x4 x5 a0_value a1_b (1 : Int32) a1_regB x1) →
  (∀ (x1 : gTx) (x2 : Int32) (x3 : Int32) (x4 : Int32) (x5 : Int32), a0_kind.toInt = 2 → a2.toInt ≠ 0 → gB x2 0 8192 → gB x3 0 6 → gB x4 0 8192 → tr_RReader_next a0_n a0_at a0_kind a0_value a0_t_v x2 x3 x4 x5 x1 → R x2 x3 x4 x5 a1_a a0_value a1_regA (1 : Int32) x1) →
  R o1 o2 o3 o4 o5 o6 o7 o8 o9
/- tx_RReader_operand: throws -/
def tx_RReader_operand (a0_kind : Int32) : Prop := ∀ R : Prop,
  (a0_kind.toInt ≠ 2 → a0_kind.toInt ≠ 4 → R) →
  R
abbrev ky_674702_Reader_operand : gKey := (cX14_operand, 4, "SpillForgeModel$Reader", none, [], "operand", fun _ _ => True)
def pp_674702_Reader_operand (D : va_G) (I : FieldType → ClassId) (P674666 : List Nat) (F674667 : Nat → va_E) (q674668 : Nat) (q674669 : Nat) (q674670 : Nat) (p674671 : Int32) (p674672 : Int32) (p674673 : Int32) (p674674 : Int32) (p674675 : Int32) (p674676 : Int32) (p674677 : Int32) (qo674678 : Nat) (p674679 : Int32) (p674680 : Int32) (p674681 : Int32) (qo674682 : Nat) (qo674683 : Nat) (p674684 : Int32) (p674685 : Int32) (p674686 : Int32) (p674687 : Int32) (p674688 : Int32) (p674689 : Int32) (p674690 : Int32) (p674691 : Int32) (f674692 : Nat → Int32) (xt674693 : gTx) : Option Value → va_W → Nat → Nat → Prop := fun r w dc ds => ∃ (P674927 : List Nat) (F674928 : Nat → va_E) (o674918 : Int32) (o674919 : Int32) (o674920 : Int32) (o674921 : Int32) (q674922 : Nat) (o674923 : Int32) (o674924 : Int32) (o674925 : Int32) (o674926 : Int32) (xt674929 : gTx), r = none ∧ w = va_pl P674927 F674928 ∧ rSub P674666 P674927 ∧ rFr [q674669, q674668] P674666 F674667 F674928 ∧ F674928 q674669 = .inr (20, [.int p674685, .int p674686, .int o674923, .int o674924, .int p674689, .int o674925, .int o674926]) ∧ F674928 q674668 = .inr (19, [.ref q674670, .int p674672, .int o674918, .int o674919, .int o674920, .int o674921, .int p674674, .ref q674922, .int p674679, .int p674680, .int p674681, .ref qo674682, .ref qo674683, .int p674684]) ∧ F674928 q674670 = .inl (I .byte, 8192, .inl f674692) ∧ dc ≤ (16 * (o674918.toInt - p674673.toInt)).toNat ∧ ds ≤ (160 * (o674918.toInt - p674673.toInt)).toNat ∧ gB o674918 0 8192 ∧ gB o674919 0 6 ∧ gB o674920 0 8192 ∧ gB o674925 0 1 ∧ gB o674926 0 1 ∧ p674673.toInt ≤ o674918.toInt ∧ prP o674919 p674673 o674918 ∧ o674918.toInt ≤ p674672.toInt ∧ tP I P674927 F674928 o674919 q674922 qo674683 qo674682 xt674929 ∧ vP o674919 o674921 ∧ rwP o674925 o674923 ∧ rwP o674926 o674924 ∧ nzK p674674 ∧ tr_RReader_operand p674671 p674672 p674673 p674674 p674676 p674687 p674688 p674690 p674691 f674692 o674918 o674919 o674920 o674921 o674923 o674924 o674925 o674926 xt674929
def xp_674702_Reader_operand (D : va_G) (I : FieldType → ClassId) (P674666 : List Nat) (F674667 : Nat → va_E) (q674668 : Nat) (q674669 : Nat) (q674670 : Nat) (p674671 : Int32) (p674672 : Int32) (p674673 : Int32) (p674674 : Int32) (p674675 : Int32) (p674676 : Int32) (p674677 : Int32) (qo674678 : Nat) (p674679 : Int32) (p674680 : Int32) (p674681 : Int32) (qo674682 : Nat) (qo674683 : Nat) (p674684 : Int32) (p674685 : Int32) (p674686 : Int32) (p674687 : Int32) (p674688 : Int32) (p674689 : Int32) (p674690 : Int32) (p674691 : Int32) (f674692 : Nat → Int32) (xt674693 : gTx) : String → Nat → va_W → Nat → Nat → Prop := fun E q w dc ds => ∃ (P674931 : List Nat) (F674930 : Nat → va_E), E = "SpillForgeModel$Wrong" ∧ w = va_pl P674931 F674930 ∧ rSub P674666 P674931 ∧ rFr [] P674666 F674667 F674930 ∧ q ∈ P674931 ∧ q ∉ P674666 ∧ wrF F674930 q ∧ dc ≤ (16 * (p674672.toInt - p674673.toInt)).toNat + 1 ∧ ds ≤ (160 * (p674672.toInt - p674673.toInt)).toNat + 7 ∧ rkR (F674930 q674669) ∧ tx_RReader_operand p674674
set_option maxRecDepth 100000 in
set_option maxHeartbeats 4000000 in
theorem cp_674702_Reader_operand (l : Launch) (hl0 : l.stackTraces = false) (D : va_G) (I : FieldType → ClassId) (P674666 : List Nat) (F674667 : Nat → va_E) (q674668 : Nat) (q674669 : Nat) (q674670 : Nat) (p674671 : Int32) (p674672 : Int32) (p674673 : Int32) (p674674 : Int32) (p674675 : Int32) (p674676 : Int32) (p674677 : Int32) (qo674678 : Nat) (p674679 : Int32) (p674680 : Int32) (p674681 : Int32) (qo674682 : Nat) (qo674683 : Nat) (p674684 : Int32) (p674685 : Int32) (p674686 : Int32) (p674687 : Int32) (p674688 : Int32) (p674689 : Int32) (p674690 : Int32) (p674691 : Int32) (f674692 : Nat → Int32) (xt674693 : gTx) (hmq674668 : q674668 ∈ P674666) (hmq674669 : q674669 ∈ P674666) (hmq674670 : q674670 ∈ P674666) (heq674668 : F674667 q674668 = .inr (19, [.ref q674670, .int p674672, .int p674673, .int p674674, .int p674675, .int p674676, .int p674677, .ref qo674678, .int p674679, .int p674680, .int p674681, .ref qo674682, .ref qo674683, .int p674684])) (heq674669 : F674667 q674669 = .inr (20, [.int p674685, .int p674686, .int p674687, .int p674688, .int p674689, .int p674690, .int p674691])) (heq674670 : F674667 q674670 = .inl (I .byte, 8192, .inl f674692)) (bp674671 : gB p674671 0 1) (bp674672 : gB p674672 0 8192) (bp674673 : gB p674673 0 8192) (bp674674 : gB p674674 0 6) (bp674675 : gB p674675 0 8192) (bp674677 : gB p674677 0 6) (bp674679 : gB p674679 (-1) 8192) (bp674680 : gB p674680 0 4) (bp674681 : gB p674681 0 1000000) (bp674684 : gB p674684 0 1000000) (bp674685 : gB p674685 0 32) (bp674686 : gB p674686 0 1999) (bp674689 : gB p674689 0 1999) (bp674690 : gB p674690 0 1) (bp674691 : gB p674691 0 1) (bf674692 : gF f674692 (-128) 127) (x674694 : p674673.toInt ≤ p674672.toInt) (x674695 : qo674683 ∈ P674666) (x674696 : qo674682 ∈ P674666) (x674697 : tP I P674666 F674667 p674674 qo674678 qo674683 qo674682 xt674693) (x674698 : vP p674674 p674676) (x674699 : rwP p674690 p674687) (x674700 : rwP p674691 p674688) (x674701 : opP p674685) : CtA (gV D I) l yX14_operand cX14_operand 4 none 8 177 ((16 * (p674672.toInt - p674673.toInt)).toNat + 1) ((160 * (p674672.toInt - p674673.toInt)).toNat + 7) [.ref q674668, .ref q674669, .int p674671] (va_pl P674666 F674667) (pp_674702_Reader_operand D I P674666 F674667 q674668 q674669 q674670 p674671 p674672 p674673 p674674 p674675 p674676 p674677 qo674678 p674679 p674680 p674681 qo674682 qo674683 p674684 p674685 p674686 p674687 p674688 p674689 p674690 p674691 f674692 xt674693) (xp_674702_Reader_operand D I P674666 F674667 q674668 q674669 q674670 p674671 p674672 p674673 p674674 p674675 p674676 p674677 qo674678 p674679 p674680 p674681 qo674682 qo674683 p674684 p674685 p674686 p674687 p674688 p674689 p674690 p674691 f674692 xt674693) := by
  refine CtA_of hl0 (by decide) (Nat.le_of_ble_eq_true rfl) ?_
  have bp674676 := gB_any p674676
  have bp674687 := gB_any p674687
  have bp674688 := gB_any p674688
  refine G_aload_n 0 dr_cX14_operand_0 rfl ?_
  refine Gp_get 3 hmq674668 heq674668 dr_cX14_operand_1 (gk_X14 D I) (Nat.le_of_ble_eq_true rfl) wr_9_39 rfl ?_
  refine G_iconst 2 dr_cX14_operand_4 (by decide +kernel) ?_
  refine G_icmp_ne 12 dr_cX14_operand_5 (by decide +kernel) (fun hc674703 => ?_) (fun hc674703 => ?_)
  · have r674704 : p674674.toInt ≠ 2 := gj_neq hc674703 (show Int32.toInt 2 = 2 by decide)
    refine G_iconst 0 dr_cX14_operand_12 (by decide +kernel) ?_
    refine G_istore_n (L' := [(3, .int 0), (0, .ref q674668), (1, .ref q674669), (2, .int p674671)]) dr_cX14_operand_13 (Nat.le_of_ble_eq_true rfl) rfl ?_
    refine G_iload_n 0 dr_cX14_operand_14 rfl ?_
    refine G_if_ne 31 dr_cX14_operand_15 (by decide +kernel) (fun hc => absurd hc (by decide)) (fun _ => ?_)
    refine G_aload_n 1 dr_cX14_operand_18 rfl ?_
    refine Gp_get 3 hmq674668 heq674668 dr_cX14_operand_19 (gk_X14 D I) (Nat.le_of_ble_eq_true rfl) wr_9_39 rfl ?_
    refine G_iconst 4 dr_cX14_operand_22 (by decide +kernel) ?_
    refine G_icmp_eq 31 dr_cX14_operand_23 (by decide +kernel) (fun hc674705 => ?_) (fun hc674705 => ?_)
    · have r674706 : p674674.toInt = 4 := gj_eq hc674705 (show Int32.toInt 4 = 4 by decide)
      have bp674674' : gB p674674 4 4 := ⟨by omega, by omega⟩
      refine G_iload_n 3 dr_cX14_operand_31 rfl ?_
      refine G_if_eq 51 dr_cX14_operand_32 (by decide +kernel) (fun hc674707 => ?_) (fun hc674707 => ?_)
      · have r674708 : p674671.toInt = 0 := gj_eq hc674707 (show Int32.toInt 0 = 0 by decide)
        have bp674671' : gB p674671 0 0 := ⟨by omega, by omega⟩
        refine G_aload_n 2 dr_cX14_operand_51 rfl ?_
        refine G_aload_n 1 dr_cX14_operand_52 rfl ?_
        refine Gp_get 5 hmq674668 heq674668 dr_cX14_operand_53 (gk_X14 D I) (Nat.le_of_ble_eq_true rfl) wr_9_41 rfl ?_
        refine Gp_put 2 hmq674669 heq674669 dr_cX14_operand_56 (gk_X15 D I) (Nat.le_of_ble_eq_true rfl) wr_9_187 rfl rfl rfl (Nat.le_of_ble_eq_true rfl) (fun F674709 e674710 n674711 => ?_)
        have he674712 : F674709 q674668 = .inr (19, [.ref q674670, .int p674672, .int p674673, .int p674674, .int p674675, .int p674676, .int p674677, .ref qo674678, .int p674679, .int p674680, .int p674681, .ref qo674682, .ref qo674683, .int p674684]) := (n674711 q674668 (rn_oo heq674668 heq674669 (by decide))).trans heq674668
        have he674713 : F674709 q674670 = .inl (I .byte, 8192, .inl f674692) := (n674711 q674670 (rn_ao heq674670 heq674669)).trans heq674670
        have he674714 : F674709 q674669 = .inr (20, [.int p674685, .int p674686, .int p674676, .int p674688, .int p674689, .int p674690, .int p674691]) := e674710
        have hfr674715 : rFr [q674669] P674666 F674667 F674709 := rFr_put (rFr_rf (W := []) (P := P674666) (F := F674667)) n674711
        have tp674716 : tP I P674666 F674709 p674674 qo674678 qo674683 qo674682 xt674693 := tP_put x674697 heq674669 (by decide) n674711
        refine G_aload_n 2 dr_cX14_operand_59 rfl ?_
        refine G_iload_n 0 dr_cX14_operand_60 rfl ?_
        refine Gp_put 5 hmq674669 he674714 dr_cX14_operand_61 (gk_X15 D I) (Nat.le_of_ble_eq_true rfl) wr_9_198 rfl rfl rfl (Nat.le_of_ble_eq_true rfl) (fun F674717 e674718 n674719 => ?_)
        have he674720 : F674717 q674668 = .inr (19, [.ref q674670, .int p674672, .int p674673, .int p674674, .int p674675, .int p674676, .int p674677, .ref qo674678, .int p674679, .int p674680, .int p674681, .ref qo674682, .ref qo674683, .int p674684]) := (n674719 q674668 (rn_oo he674712 he674714 (by decide))).trans he674712
        have he674721 : F674717 q674670 = .inl (I .byte, 8192, .inl f674692) := (n674719 q674670 (rn_ao he674713 he674714)).trans he674713
        have he674722 : F674717 q674669 = .inr (20, [.int p674685, .int p674686, .int p674676, .int p674688, .int p674689, .int 0, .int p674691]) := e674718
        have hfr674723 : rFr [q674669] P674666 F674667 F674717 := rFr_put' List.mem_cons_self hfr674715 n674719
        have tp674724 : tP I P674666 F674717 p674674 qo674678 qo674683 qo674682 xt674693 := tP_put tp674716 he674714 (by decide) n674719
        refine G_aload_n 1 dr_cX14_operand_64 rfl ?_
        refine Gw_callV (As := []) (gV_ok D I) (cp_672367_Reader_next l hl0 D I P674666 F674717 q674668 q674670 p674672 p674673 p674674 p674675 p674676 p674677 qo674678 p674679 p674680 p674681 qo674682 qo674683 p674684 f674692 hmq674668 hmq674670 he674720 he674721 bp674672 bp674673 (gB_w bp674674' (by decide) (by decide)) bp674675 bp674677 bp674679 bp674680 bp674681 bp674684 bf674692 (by have qa0 : Int32.toInt 0 = 0 := (by decide); omega) x674695 x674696) dr_cX14_operand_65 ⟨wr_7_215, wr_1_32, wr_7_218, by decide, rfl, (Nat.le_of_ble_eq_true rfl), (Nat.le_of_ble_eq_true rfl)⟩ wr_7_217 wr_p_75 hmq674668 he674720 rfl (show 0 + ((16 * (p674672.toInt - p674673.toInt)).toNat) ≤ ((16 * (p674672.toInt - p674673.toInt)).toNat + 1) by first | omega | decide) (show 0 + ((160 * (p674672.toInt - p674673.toInt)).toNat) ≤ ((160 * (p674672.toInt - p674673.toInt)).toNat + 7) by first | omega | decide) (Nat.le_of_ble_eq_true rfl) (fun r674728 w674729 dc674725 ds674726 hp674727 => ?_) (fun _ _ _ _ _ z => z.elim)
        obtain ⟨P674742, F674743, o674730, o674731, o674732, o674733, q674734, xt674741, rfl, rfl, hsb674744, hfr674745, he674746, he674747, hdc, hds, bo674730, bo674731, bo674732, x674735, x674736, x674737, x674738, x674739, ht674740⟩ := hp674727
        have hm674748 : q674668 ∈ P674742 := hsb674744 q674668 hmq674668
        have hm674749 : q674669 ∈ P674742 := hsb674744 q674669 hmq674669
        have hm674750 : q674670 ∈ P674742 := hsb674744 q674670 hmq674670
        have hsb674751 : rSub P674666 P674742 := rSub_tr (rSub_rf (P := P674666)) hsb674744
        have he674752 : F674743 q674669 = .inr (20, [.int p674685, .int p674686, .int p674676, .int p674688, .int p674689, .int 0, .int p674691]) := (hfr674745 q674669 hmq674669 (nm_c (rn_oo he674722 he674720 (by decide)) nm_n)).trans he674722
        have hfr674753 : rFr [q674669, q674668] P674666 F674667 F674743 := rFr_call (rSub_rf (P := P674666)) hfr674723 hfr674745 (fun b hb hn => ⟨(nm_c (fun e => hn (e ▸ List.mem_cons_self)) nm_n), (nm_c (fun e => hn (e ▸ (List.mem_cons_of_mem _ List.mem_cons_self))) nm_n)⟩)
        have bo674733 := gB_any o674733
        change G _ _ _ _ _ _ _ _ _ _ _
        refine G_widen (cs' := (16 * (o674730.toInt - p674673.toInt)).toNat) (sl' := (160 * (o674730.toInt - p674673.toInt)).toNat) (by omega) (by omega) ?_
        exact G_vretA dr_cX14_operand_68 rfl (show (16 * (o674730.toInt - p674673.toInt)).toNat ≤ ((16 * (p674672.toInt - p674673.toInt)).toNat + 1) by omega) (show (160 * (o674730.toInt - p674673.toInt)).toNat ≤ ((160 * (p674672.toInt - p674673.toInt)).toNat + 7) by omega) ⟨P674742, F674743, o674730, o674731, o674732, o674733, q674734, p674676, p674688, 0, p674691, xt674741, rfl, rfl, hsb674751, hfr674753, he674752, he674746, he674747, (by omega), (by omega), bo674730, bo674731, bo674732, (gB_w (gBl (show Int32.toInt 0 = 0 by decide)) (by decide) (by decide)), bp674691, (by have qa0 : Int32.toInt 0 = 0 := (by decide); omega), x674736, (by have qa0 : Int32.toInt 0 = 0 := (by decide); omega), x674738, x674739, rwP_0, x674700, (show nzK p674674 by unfold nzK; omega), (fun R c1 c2 c3 c4 => c1 xt674741 o674730 o674731 o674732 o674733 r674704 r674706 r674708 bo674730 bo674731 bo674732 ht674740)⟩
      · have r674754 : p674671.toInt ≠ 0 := gj_neq hc674707 (show Int32.toInt 0 = 0 by decide)
        have bp674671' : gB p674671 1 1 := ⟨by omega, by omega⟩
        refine G_aload_n 2 dr_cX14_operand_35 rfl ?_
        refine G_aload_n 1 dr_cX14_operand_36 rfl ?_
        refine Gp_get 5 hmq674668 heq674668 dr_cX14_operand_37 (gk_X14 D I) (Nat.le_of_ble_eq_true rfl) wr_9_41 rfl ?_
        refine Gp_put 3 hmq674669 heq674669 dr_cX14_operand_40 (gk_X15 D I) (Nat.le_of_ble_eq_true rfl) wr_9_191 rfl rfl rfl (Nat.le_of_ble_eq_true rfl) (fun F674755 e674756 n674757 => ?_)
        have he674758 : F674755 q674668 = .inr (19, [.ref q674670, .int p674672, .int p674673, .int p674674, .int p674675, .int p674676, .int p674677, .ref qo674678, .int p674679, .int p674680, .int p674681, .ref qo674682, .ref qo674683, .int p674684]) := (n674757 q674668 (rn_oo heq674668 heq674669 (by decide))).trans heq674668
        have he674759 : F674755 q674670 = .inl (I .byte, 8192, .inl f674692) := (n674757 q674670 (rn_ao heq674670 heq674669)).trans heq674670
        have he674760 : F674755 q674669 = .inr (20, [.int p674685, .int p674686, .int p674687, .int p674676, .int p674689, .int p674690, .int p674691]) := e674756
        have hfr674761 : rFr [q674669] P674666 F674667 F674755 := rFr_put (rFr_rf (W := []) (P := P674666) (F := F674667)) n674757
        have tp674762 : tP I P674666 F674755 p674674 qo674678 qo674683 qo674682 xt674693 := tP_put x674697 heq674669 (by decide) n674757
        refine G_aload_n 2 dr_cX14_operand_43 rfl ?_
        refine G_iload_n 0 dr_cX14_operand_44 rfl ?_
        refine Gp_put 6 hmq674669 he674760 dr_cX14_operand_45 (gk_X15 D I) (Nat.le_of_ble_eq_true rfl) wr_9_201 rfl rfl rfl (Nat.le_of_ble_eq_true rfl) (fun F674763 e674764 n674765 => ?_)
        have he674766 : F674763 q674668 = .inr (19, [.ref q674670, .int p674672, .int p674673, .int p674674, .int p674675, .int p674676, .int p674677, .ref qo674678, .int p674679, .int p674680, .int p674681, .ref qo674682, .ref qo674683, .int p674684]) := (n674765 q674668 (rn_oo he674758 he674760 (by decide))).trans he674758
        have he674767 : F674763 q674670 = .inl (I .byte, 8192, .inl f674692) := (n674765 q674670 (rn_ao he674759 he674760)).trans he674759
        have he674768 : F674763 q674669 = .inr (20, [.int p674685, .int p674686, .int p674687, .int p674676, .int p674689, .int p674690, .int 0]) := e674764
        have hfr674769 : rFr [q674669] P674666 F674667 F674763 := rFr_put' List.mem_cons_self hfr674761 n674765
        have tp674770 : tP I P674666 F674763 p674674 qo674678 qo674683 qo674682 xt674693 := tP_put tp674762 he674760 (by decide) n674765
        refine G_goto 64 dr_cX14_operand_48 (by decide +kernel) ?_
        refine G_aload_n 1 dr_cX14_operand_64 rfl ?_
        refine Gw_callV (As := []) (gV_ok D I) (cp_672367_Reader_next l hl0 D I P674666 F674763 q674668 q674670 p674672 p674673 p674674 p674675 p674676 p674677 qo674678 p674679 p674680 p674681 qo674682 qo674683 p674684 f674692 hmq674668 hmq674670 he674766 he674767 bp674672 bp674673 (gB_w bp674674' (by decide) (by decide)) bp674675 bp674677 bp674679 bp674680 bp674681 bp674684 bf674692 (by have qa0 : Int32.toInt 0 = 0 := (by decide); omega) x674695 x674696) dr_cX14_operand_65 ⟨wr_7_215, wr_1_32, wr_7_218, by decide, rfl, (Nat.le_of_ble_eq_true rfl), (Nat.le_of_ble_eq_true rfl)⟩ wr_7_217 wr_p_75 hmq674668 he674766 rfl (show 0 + ((16 * (p674672.toInt - p674673.toInt)).toNat) ≤ ((16 * (p674672.toInt - p674673.toInt)).toNat + 1) by first | omega | decide) (show 0 + ((160 * (p674672.toInt - p674673.toInt)).toNat) ≤ ((160 * (p674672.toInt - p674673.toInt)).toNat + 7) by first | omega | decide) (Nat.le_of_ble_eq_true rfl) (fun r674774 w674775 dc674771 ds674772 hp674773 => ?_) (fun _ _ _ _ _ z => z.elim)
        obtain ⟨P674788, F674789, o674776, o674777, o674778, o674779, q674780, xt674787, rfl, rfl, hsb674790, hfr674791, he674792, he674793, hdc, hds, bo674776, bo674777, bo674778, x674781, x674782, x674783, x674784, x674785, ht674786⟩ := hp674773
        have hm674794 : q674668 ∈ P674788 := hsb674790 q674668 hmq674668
        have hm674795 : q674669 ∈ P674788 := hsb674790 q674669 hmq674669
        have hm674796 : q674670 ∈ P674788 := hsb674790 q674670 hmq674670
        have hsb674797 : rSub P674666 P674788 := rSub_tr (rSub_rf (P := P674666)) hsb674790
        have he674798 : F674789 q674669 = .inr (20, [.int p674685, .int p674686, .int p674687, .int p674676, .int p674689, .int p674690, .int 0]) := (hfr674791 q674669 hmq674669 (nm_c (rn_oo he674768 he674766 (by decide)) nm_n)).trans he674768
        have hfr674799 : rFr [q674669, q674668] P674666 F674667 F674789 := rFr_call (rSub_rf (P := P674666)) hfr674769 hfr674791 (fun b hb hn => ⟨(nm_c (fun e => hn (e ▸ List.mem_cons_self)) nm_n), (nm_c (fun e => hn (e ▸ (List.mem_cons_of_mem _ List.mem_cons_self))) nm_n)⟩)
        have bo674779 := gB_any o674779
        change G _ _ _ _ _ _ _ _ _ _ _
        refine G_widen (cs' := (16 * (o674776.toInt - p674673.toInt)).toNat) (sl' := (160 * (o674776.toInt - p674673.toInt)).toNat) (by omega) (by omega) ?_
        exact G_vretA dr_cX14_operand_68 rfl (show (16 * (o674776.toInt - p674673.toInt)).toNat ≤ ((16 * (p674672.toInt - p674673.toInt)).toNat + 1) by omega) (show (160 * (o674776.toInt - p674673.toInt)).toNat ≤ ((160 * (p674672.toInt - p674673.toInt)).toNat + 7) by omega) ⟨P674788, F674789, o674776, o674777, o674778, o674779, q674780, p674687, p674676, p674690, 0, xt674787, rfl, rfl, hsb674797, hfr674799, he674798, he674792, he674793, (by omega), (by omega), bo674776, bo674777, bo674778, bp674690, (gB_w (gBl (show Int32.toInt 0 = 0 by decide)) (by decide) (by decide)), (by have qa0 : Int32.toInt 0 = 0 := (by decide); omega), x674782, (by have qa0 : Int32.toInt 0 = 0 := (by decide); omega), x674784, x674785, x674699, rwP_0, (show nzK p674674 by unfold nzK; omega), (fun R c1 c2 c3 c4 => c2 xt674787 o674776 o674777 o674778 o674779 r674704 r674706 r674754 bo674776 bo674777 bo674778 ht674786)⟩
    · have r674800 : p674674.toInt ≠ 4 := gj_neq hc674705 (show Int32.toInt 4 = 4 by decide)
      refine G_aload_n 1 dr_cX14_operand_26 rfl ?_
      refine Gw_callV (As := []) (gV_ok D I) (cp_674107_Reader_no l hl0 D I P674666 F674667 q674668 q674670 p674672 p674673 p674674 p674675 p674676 p674677 qo674678 p674679 p674680 p674681 qo674682 qo674683 p674684 f674692 hmq674668 hmq674670 heq674668 heq674670 bp674672 bp674673 bp674674 bp674675 bp674677 bp674679 bp674680 bp674681 bp674684 bf674692) dr_cX14_operand_27 ⟨wr_9_97, wr_1_32, wr_9_100, by decide, rfl, (Nat.le_of_ble_eq_true rfl), (Nat.le_of_ble_eq_true rfl)⟩ wr_9_99 wr_p_81 hmq674668 heq674668 rfl (show 0 + 1 ≤ ((16 * (p674672.toInt - p674673.toInt)).toNat + 1) by first | omega | decide) (show 0 + 7 ≤ ((160 * (p674672.toInt - p674673.toInt)).toNat + 7) by first | omega | decide) (Nat.le_of_ble_eq_true rfl) (fun r674804 w674805 dc674801 ds674802 hp674803 => ?_) (fun _ _ _ _ _ z => z.elim)
      obtain ⟨P674807, F674808, q674806, rfl, rfl, hsb674809, hfr674810, he674811, he674812, he674813, hm674814, hq674815, hdc, hds⟩ := hp674803
      have hm674816 : q674668 ∈ P674807 := hsb674809 q674668 hmq674668
      have hm674817 : q674669 ∈ P674807 := hsb674809 q674669 hmq674669
      have hm674818 : q674670 ∈ P674807 := hsb674809 q674670 hmq674670
      have hq674819 : q674806 ∉ P674666 := fun z => hq674815 ((rSub_rf (P := P674666)) q674806 z)
      have hsb674820 : rSub P674666 P674807 := rSub_tr (rSub_rf (P := P674666)) hsb674809
      have he674821 : F674808 q674669 = .inr (20, [.int p674685, .int p674686, .int p674687, .int p674688, .int p674689, .int p674690, .int p674691]) := (hfr674810 q674669 hmq674669 nm_n).trans heq674669
      have hfr674822 : rFr [] P674666 F674667 F674808 := rFr_call (rSub_rf (P := P674666)) (rFr_rf (W := []) (P := P674666) (F := F674667)) hfr674810 (fun b hb hn => ⟨nm_n, nm_n⟩)
      have tp674823 : tP I P674807 F674808 p674674 qo674678 qo674683 qo674682 xt674693 := tP_new x674697 hsb674809 (fun b hb => hfr674810 b hb (fun z => by cases z)) (Or.inl rfl) (Or.inl rfl)
      change G _ _ _ _ _ _ _ (.ref q674806 :: _) _ _ _
      refine G_widen (cs' := 1) (sl' := 7) (by omega) (by omega) ?_
      exact Gp_athrow hm674814 he674813 rfl dr_cX14_operand_30 (GT_outA rfl (show 1 ≤ ((16 * (p674672.toInt - p674673.toInt)).toNat + 1) by omega) (show 7 ≤ ((160 * (p674672.toInt - p674673.toInt)).toNat + 7) by omega) ⟨P674807, F674808, rfl, rfl, hsb674820, hfr674822, hm674814, hq674819, ⟨_, _, _, _, _, _, _, he674813, by omega⟩, (by omega), (by omega), ⟨p674685, p674686, p674687, p674688, p674689, p674690, p674691, he674821, bp674685, bp674686, bp674689, bp674690, bp674691, x674701, x674699, x674700⟩, (fun R c1 => c1 r674704 r674800)⟩)
  · have r674824 : p674674.toInt = 2 := gj_eq hc674703 (show Int32.toInt 2 = 2 by decide)
    have bp674674' : gB p674674 2 2 := ⟨by omega, by omega⟩
    refine G_iconst 1 dr_cX14_operand_8 (by decide +kernel) ?_
    refine G_goto 13 dr_cX14_operand_9 (by decide +kernel) ?_
    refine G_istore_n (L' := [(3, .int 1), (0, .ref q674668), (1, .ref q674669), (2, .int p674671)]) dr_cX14_operand_13 (Nat.le_of_ble_eq_true rfl) rfl ?_
    refine G_iload_n 0 dr_cX14_operand_14 rfl ?_
    refine G_if_ne 31 dr_cX14_operand_15 (by decide +kernel) (fun _ => ?_) (fun hc => absurd hc (by decide))
    refine G_iload_n 3 dr_cX14_operand_31 rfl ?_
    refine G_if_eq 51 dr_cX14_operand_32 (by decide +kernel) (fun hc674825 => ?_) (fun hc674825 => ?_)
    · have r674826 : p674671.toInt = 0 := gj_eq hc674825 (show Int32.toInt 0 = 0 by decide)
      have bp674671' : gB p674671 0 0 := ⟨by omega, by omega⟩
      refine G_aload_n 2 dr_cX14_operand_51 rfl ?_
      refine G_aload_n 1 dr_cX14_operand_52 rfl ?_
      refine Gp_get 5 hmq674668 heq674668 dr_cX14_operand_53 (gk_X14 D I) (Nat.le_of_ble_eq_true rfl) wr_9_41 rfl ?_
      refine Gp_put 2 hmq674669 heq674669 dr_cX14_operand_56 (gk_X15 D I) (Nat.le_of_ble_eq_true rfl) wr_9_187 rfl rfl rfl (Nat.le_of_ble_eq_true rfl) (fun F674827 e674828 n674829 => ?_)
      have he674830 : F674827 q674668 = .inr (19, [.ref q674670, .int p674672, .int p674673, .int p674674, .int p674675, .int p674676, .int p674677, .ref qo674678, .int p674679, .int p674680, .int p674681, .ref qo674682, .ref qo674683, .int p674684]) := (n674829 q674668 (rn_oo heq674668 heq674669 (by decide))).trans heq674668
      have he674831 : F674827 q674670 = .inl (I .byte, 8192, .inl f674692) := (n674829 q674670 (rn_ao heq674670 heq674669)).trans heq674670
      have he674832 : F674827 q674669 = .inr (20, [.int p674685, .int p674686, .int p674676, .int p674688, .int p674689, .int p674690, .int p674691]) := e674828
      have hfr674833 : rFr [q674669] P674666 F674667 F674827 := rFr_put (rFr_rf (W := []) (P := P674666) (F := F674667)) n674829
      have tp674834 : tP I P674666 F674827 p674674 qo674678 qo674683 qo674682 xt674693 := tP_put x674697 heq674669 (by decide) n674829
      refine G_aload_n 2 dr_cX14_operand_59 rfl ?_
      refine G_iload_n 0 dr_cX14_operand_60 rfl ?_
      refine Gp_put 5 hmq674669 he674832 dr_cX14_operand_61 (gk_X15 D I) (Nat.le_of_ble_eq_true rfl) wr_9_198 rfl rfl rfl (Nat.le_of_ble_eq_true rfl) (fun F674835 e674836 n674837 => ?_)
      have he674838 : F674835 q674668 = .inr (19, [.ref q674670, .int p674672, .int p674673, .int p674674, .int p674675, .int p674676, .int p674677, .ref qo674678, .int p674679, .int p674680, .int p674681, .ref qo674682, .ref qo674683, .int p674684]) := (n674837 q674668 (rn_oo he674830 he674832 (by decide))).trans he674830
      have he674839 : F674835 q674670 = .inl (I .byte, 8192, .inl f674692) := (n674837 q674670 (rn_ao he674831 he674832)).trans he674831
      have he674840 : F674835 q674669 = .inr (20, [.int p674685, .int p674686, .int p674676, .int p674688, .int p674689, .int 1, .int p674691]) := e674836
      have hfr674841 : rFr [q674669] P674666 F674667 F674835 := rFr_put' List.mem_cons_self hfr674833 n674837
      have tp674842 : tP I P674666 F674835 p674674 qo674678 qo674683 qo674682 xt674693 := tP_put tp674834 he674832 (by decide) n674837
      refine G_aload_n 1 dr_cX14_operand_64 rfl ?_
      refine Gw_callV (As := []) (gV_ok D I) (cp_672367_Reader_next l hl0 D I P674666 F674835 q674668 q674670 p674672 p674673 p674674 p674675 p674676 p674677 qo674678 p674679 p674680 p674681 qo674682 qo674683 p674684 f674692 hmq674668 hmq674670 he674838 he674839 bp674672 bp674673 (gB_w bp674674' (by decide) (by decide)) bp674675 bp674677 bp674679 bp674680 bp674681 bp674684 bf674692 (by have qa0 : Int32.toInt 1 = 1 := (by decide); omega) x674695 x674696) dr_cX14_operand_65 ⟨wr_7_215, wr_1_32, wr_7_218, by decide, rfl, (Nat.le_of_ble_eq_true rfl), (Nat.le_of_ble_eq_true rfl)⟩ wr_7_217 wr_p_75 hmq674668 he674838 rfl (show 0 + ((16 * (p674672.toInt - p674673.toInt)).toNat) ≤ ((16 * (p674672.toInt - p674673.toInt)).toNat + 1) by first | omega | decide) (show 0 + ((160 * (p674672.toInt - p674673.toInt)).toNat) ≤ ((160 * (p674672.toInt - p674673.toInt)).toNat + 7) by first | omega | decide) (Nat.le_of_ble_eq_true rfl) (fun r674846 w674847 dc674843 ds674844 hp674845 => ?_) (fun _ _ _ _ _ z => z.elim)
      obtain ⟨P674860, F674861, o674848, o674849, o674850, o674851, q674852, xt674859, rfl, rfl, hsb674862, hfr674863, he674864, he674865, hdc, hds, bo674848, bo674849, bo674850, x674853, x674854, x674855, x674856, x674857, ht674858⟩ := hp674845
      have hm674866 : q674668 ∈ P674860 := hsb674862 q674668 hmq674668
      have hm674867 : q674669 ∈ P674860 := hsb674862 q674669 hmq674669
      have hm674868 : q674670 ∈ P674860 := hsb674862 q674670 hmq674670
      have hsb674869 : rSub P674666 P674860 := rSub_tr (rSub_rf (P := P674666)) hsb674862
      have he674870 : F674861 q674669 = .inr (20, [.int p674685, .int p674686, .int p674676, .int p674688, .int p674689, .int 1, .int p674691]) := (hfr674863 q674669 hmq674669 (nm_c (rn_oo he674840 he674838 (by decide)) nm_n)).trans he674840
      have hfr674871 : rFr [q674669, q674668] P674666 F674667 F674861 := rFr_call (rSub_rf (P := P674666)) hfr674841 hfr674863 (fun b hb hn => ⟨(nm_c (fun e => hn (e ▸ List.mem_cons_self)) nm_n), (nm_c (fun e => hn (e ▸ (List.mem_cons_of_mem _ List.mem_cons_self))) nm_n)⟩)
      have bo674851 := gB_any o674851
      change G _ _ _ _ _ _ _ _ _ _ _
      refine G_widen (cs' := (16 * (o674848.toInt - p674673.toInt)).toNat) (sl' := (160 * (o674848.toInt - p674673.toInt)).toNat) (by omega) (by omega) ?_
      exact G_vretA dr_cX14_operand_68 rfl (show (16 * (o674848.toInt - p674673.toInt)).toNat ≤ ((16 * (p674672.toInt - p674673.toInt)).toNat + 1) by omega) (show (160 * (o674848.toInt - p674673.toInt)).toNat ≤ ((160 * (p674672.toInt - p674673.toInt)).toNat + 7) by omega) ⟨P674860, F674861, o674848, o674849, o674850, o674851, q674852, p674676, p674688, 1, p674691, xt674859, rfl, rfl, hsb674869, hfr674871, he674870, he674864, he674865, (by omega), (by omega), bo674848, bo674849, bo674850, (gB_w (gBl (show Int32.toInt 1 = 1 by decide)) (by decide) (by decide)), bp674691, (by have qa0 : Int32.toInt 1 = 1 := (by decide); omega), x674854, (by have qa0 : Int32.toInt 1 = 1 := (by decide); omega), x674856, x674857, (rwP_1 x674698 (by omega)), x674700, (show nzK p674674 by unfold nzK; omega), (fun R c1 c2 c3 c4 => c3 xt674859 o674848 o674849 o674850 o674851 r674824 r674826 bo674848 bo674849 bo674850 ht674858)⟩
    · have r674872 : p674671.toInt ≠ 0 := gj_neq hc674825 (show Int32.toInt 0 = 0 by decide)
      have bp674671' : gB p674671 1 1 := ⟨by omega, by omega⟩
      refine G_aload_n 2 dr_cX14_operand_35 rfl ?_
      refine G_aload_n 1 dr_cX14_operand_36 rfl ?_
      refine Gp_get 5 hmq674668 heq674668 dr_cX14_operand_37 (gk_X14 D I) (Nat.le_of_ble_eq_true rfl) wr_9_41 rfl ?_
      refine Gp_put 3 hmq674669 heq674669 dr_cX14_operand_40 (gk_X15 D I) (Nat.le_of_ble_eq_true rfl) wr_9_191 rfl rfl rfl (Nat.le_of_ble_eq_true rfl) (fun F674873 e674874 n674875 => ?_)
      have he674876 : F674873 q674668 = .inr (19, [.ref q674670, .int p674672, .int p674673, .int p674674, .int p674675, .int p674676, .int p674677, .ref qo674678, .int p674679, .int p674680, .int p674681, .ref qo674682, .ref qo674683, .int p674684]) := (n674875 q674668 (rn_oo heq674668 heq674669 (by decide))).trans heq674668
      have he674877 : F674873 q674670 = .inl (I .byte, 8192, .inl f674692) := (n674875 q674670 (rn_ao heq674670 heq674669)).trans heq674670
      have he674878 : F674873 q674669 = .inr (20, [.int p674685, .int p674686, .int p674687, .int p674676, .int p674689, .int p674690, .int p674691]) := e674874
      have hfr674879 : rFr [q674669] P674666 F674667 F674873 := rFr_put (rFr_rf (W := []) (P := P674666) (F := F674667)) n674875
      have tp674880 : tP I P674666 F674873 p674674 qo674678 qo674683 qo674682 xt674693 := tP_put x674697 heq674669 (by decide) n674875
      refine G_aload_n 2 dr_cX14_operand_43 rfl ?_
      refine G_iload_n 0 dr_cX14_operand_44 rfl ?_
      refine Gp_put 6 hmq674669 he674878 dr_cX14_operand_45 (gk_X15 D I) (Nat.le_of_ble_eq_true rfl) wr_9_201 rfl rfl rfl (Nat.le_of_ble_eq_true rfl) (fun F674881 e674882 n674883 => ?_)
      have he674884 : F674881 q674668 = .inr (19, [.ref q674670, .int p674672, .int p674673, .int p674674, .int p674675, .int p674676, .int p674677, .ref qo674678, .int p674679, .int p674680, .int p674681, .ref qo674682, .ref qo674683, .int p674684]) := (n674883 q674668 (rn_oo he674876 he674878 (by decide))).trans he674876
      have he674885 : F674881 q674670 = .inl (I .byte, 8192, .inl f674692) := (n674883 q674670 (rn_ao he674877 he674878)).trans he674877
      have he674886 : F674881 q674669 = .inr (20, [.int p674685, .int p674686, .int p674687, .int p674676, .int p674689, .int p674690, .int 1]) := e674882
      have hfr674887 : rFr [q674669] P674666 F674667 F674881 := rFr_put' List.mem_cons_self hfr674879 n674883
      have tp674888 : tP I P674666 F674881 p674674 qo674678 qo674683 qo674682 xt674693 := tP_put tp674880 he674878 (by decide) n674883
      refine G_goto 64 dr_cX14_operand_48 (by decide +kernel) ?_
      refine G_aload_n 1 dr_cX14_operand_64 rfl ?_
      refine Gw_callV (As := []) (gV_ok D I) (cp_672367_Reader_next l hl0 D I P674666 F674881 q674668 q674670 p674672 p674673 p674674 p674675 p674676 p674677 qo674678 p674679 p674680 p674681 qo674682 qo674683 p674684 f674692 hmq674668 hmq674670 he674884 he674885 bp674672 bp674673 (gB_w bp674674' (by decide) (by decide)) bp674675 bp674677 bp674679 bp674680 bp674681 bp674684 bf674692 (by have qa0 : Int32.toInt 1 = 1 := (by decide); omega) x674695 x674696) dr_cX14_operand_65 ⟨wr_7_215, wr_1_32, wr_7_218, by decide, rfl, (Nat.le_of_ble_eq_true rfl), (Nat.le_of_ble_eq_true rfl)⟩ wr_7_217 wr_p_75 hmq674668 he674884 rfl (show 0 + ((16 * (p674672.toInt - p674673.toInt)).toNat) ≤ ((16 * (p674672.toInt - p674673.toInt)).toNat + 1) by first | omega | decide) (show 0 + ((160 * (p674672.toInt - p674673.toInt)).toNat) ≤ ((160 * (p674672.toInt - p674673.toInt)).toNat + 7) by first | omega | decide) (Nat.le_of_ble_eq_true rfl) (fun r674892 w674893 dc674889 ds674890 hp674891 => ?_) (fun _ _ _ _ _ z => z.elim)
      obtain ⟨P674906, F674907, o674894, o674895, o674896, o674897, q674898, xt674905, rfl, rfl, hsb674908, hfr674909, he674910, he674911, hdc, hds, bo674894, bo674895, bo674896, x674899, x674900, x674901, x674902, x674903, ht674904⟩ := hp674891
      have hm674912 : q674668 ∈ P674906 := hsb674908 q674668 hmq674668
      have hm674913 : q674669 ∈ P674906 := hsb674908 q674669 hmq674669
      have hm674914 : q674670 ∈ P674906 := hsb674908 q674670 hmq674670
      have hsb674915 : rSub P674666 P674906 := rSub_tr (rSub_rf (P := P674666)) hsb674908
      have he674916 : F674907 q674669 = .inr (20, [.int p674685, .int p674686, .int p674687, .int p674676, .int p674689, .int p674690, .int 1]) := (hfr674909 q674669 hmq674669 (nm_c (rn_oo he674886 he674884 (by decide)) nm_n)).trans he674886
      have hfr674917 : rFr [q674669, q674668] P674666 F674667 F674907 := rFr_call (rSub_rf (P := P674666)) hfr674887 hfr674909 (fun b hb hn => ⟨(nm_c (fun e => hn (e ▸ List.mem_cons_self)) nm_n), (nm_c (fun e => hn (e ▸ (List.mem_cons_of_mem _ List.mem_cons_self))) nm_n)⟩)
      have bo674897 := gB_any o674897
      change G _ _ _ _ _ _ _ _ _ _ _
      refine G_widen (cs' := (16 * (o674894.toInt - p674673.toInt)).toNat) (sl' := (160 * (o674894.toInt - p674673.toInt)).toNat) (by omega) (by omega) ?_
      exact G_vretA dr_cX14_operand_68 rfl (show (16 * (o674894.toInt - p674673.toInt)).toNat ≤ ((16 * (p674672.toInt - p674673.toInt)).toNat + 1) by omega) (show (160 * (o674894.toInt - p674673.toInt)).toNat ≤ ((160 * (p674672.toInt - p674673.toInt)).toNat + 7) by omega) ⟨P674906, F674907, o674894, o674895, o674896, o674897, q674898, p674687, p674676, p674690, 1, xt674905, rfl, rfl, hsb674915, hfr674917, he674916, he674910, he674911, (by omega), (by omega), bo674894, bo674895, bo674896, bp674690, (gB_w (gBl (show Int32.toInt 1 = 1 by decide)) (by decide) (by decide)), (by have qa0 : Int32.toInt 1 = 1 := (by decide); omega), x674900, (by have qa0 : Int32.toInt 1 = 1 := (by decide); omega), x674902, x674903, x674699, (rwP_1 x674698 (by omega)), (show nzK p674674 by unfold nzK; omega), (fun R c1 c2 c3 c4 => c4 xt674905 o674894 o674895 o674896 o674897 r674824 r674872 bo674894 bo674895 bo674896 ht674904)⟩
/- tr_RStringLatin1_charAt2: result -/
def tr_RStringLatin1_charAt2 (bs : List Int32) (a1 : Int32) (o1 : Int32) : Prop := ∀ R : (Int32) → Prop,
  (∀ (x1 : Int32) (x2 : Int32) (x3 : Int32) (x4 : Int32), x1.toInt = (bs.length : Int) → tr_RString_checkIndex a1 x1 → x2 = bs.getD a1.toNatClampNeg 0 → x3 = x2 &&& (255 : Int32) → x4 = (x3.toUInt32 % 65536).toInt32 → R x4) →
  R o1
abbrev ky_675111_StringLatin1_charAt : gKey := (cJ1_charAt_3b067, 2, "java/lang/StringLatin1", (some FieldType.char), [], "charAt", fun _ _ => True)
def pp_675111_StringLatin1_charAt (D : va_G) (I : FieldType → ClassId) (P675105 : List Nat) (F675106 : Nat → va_E) (qs675107 : Nat) (bs675108 : List Int32) (p675109 : Int32) : Option Value → va_W → Nat → Nat → Prop := fun r w dc ds => ∃ (o675122 : Int32), r = some (.int o675122) ∧ w = va_pl P675105 F675106 ∧ dc ≤ 0 ∧ ds ≤ 0 ∧ gB o675122 0 255 ∧ chP (fun j => bs675108.getD j 0) p675109 o675122 ∧ tr_RStringLatin1_charAt2 bs675108 p675109 o675122
set_option maxRecDepth 100000 in
set_option maxHeartbeats 4000000 in
theorem cp_675111_StringLatin1_charAt (l : Launch) (hl0 : l.stackTraces = false) (D : va_G) (I : FieldType → ClassId) (P675105 : List Nat) (F675106 : Nat → va_E) (qs675107 : Nat) (bs675108 : List Int32) (p675109 : Int32) (hbs675108 : ∀ A s H, (gV D I).2.2.2.1 A s H → va_T .byte qs675107 bs675108.length (fun j => .int (bs675108.getD j 0)) A s H) (nbs675108 : (bs675108.length : Int) ≤ 65535) (lbs675108 : gLB bs675108) (bp675109 : gB p675109 0 16777215) (x675110 : p675109.toInt < (bs675108.length : Int)) : CtA (gV D I) l yJ1_charAt_3b067 cJ1_charAt_3b067 2 (some FieldType.char) 2 43 0 0 [.ref qs675107, .int p675109] (va_pl P675105 F675106) (pp_675111_StringLatin1_charAt D I P675105 F675106 qs675107 bs675108 p675109) gNA := by
  refine CtA_ofF hl0 (by decide +kernel) (Nat.le_of_ble_eq_true rfl) ?_
  refine G_iload_n 1 dr_cJ1_charAt_3b067_0 rfl ?_
  refine G_aload_n 0 dr_cJ1_charAt_3b067_1 rfl ?_
  refine G_klen dr_cJ1_charAt_3b067_2 hbs675108 (G_nam fun z675112 hz675112 => ?_)
  have ez675112 : z675112.toInt = (bs675108.length : Int) := gI_ofN hz675112 nbs675108
  have bz675112 : gB z675112 0 65535 := ⟨by omega, by omega⟩
  refine Gw_callS (As := [.int p675109, .int z675112]) (gV_ok D I) (cp_658460_String_checkIndex l hl0 D I P675105 F675106 p675109 z675112 (gB_w bp675109 (by decide) (by decide)) (gB_w bz675112 (by decide) (by decide)) (by omega)) dr_cJ1_charAt_3b067_3 ⟨wr_3_78, wr_1_21, wr_3_80, by decide, rfl, (Nat.le_of_ble_eq_true rfl), (Nat.le_of_ble_eq_true rfl)⟩ wr_3_79 (show 0 + 0 ≤ 0 by first | omega | decide) (show 0 + 0 ≤ 0 by first | omega | decide) (Nat.le_of_ble_eq_true rfl) (fun r675116 w675117 dc675113 ds675114 hp675115 => ?_) (fun _ _ _ _ _ z => z.elim)
  obtain ⟨rfl, rfl, hdc, hds, ht675118⟩ := hp675115
  change G _ _ _ _ _ _ _ _ _ _ _
  refine G_widen (cs' := 0) (sl' := 0) (by omega) (by omega) ?_
  refine G_aload_n 0 dr_cJ1_charAt_3b067_6 rfl ?_
  refine G_iload_n 1 dr_cJ1_charAt_3b067_7 rfl ?_
  refine G_kbald (f := fun j => bs675108.getD j 0) dr_cJ1_charAt_3b067_8 hbs675108 (gB_inr (by omega) (by omega)) (G_nam fun z675119 hz675119 => ?_)
  have bz675119 : gB z675119 (-2147483648) 2147483647 := gB_any z675119
  refine G_sipush 255 dr_cJ1_charAt_3b067_9 (by decide +kernel) ?_
  refine G_iand dr_cJ1_charAt_3b067_12 (G_nam fun z675120 hz675120 => ?_)
  have bz675120 : gB z675120 0 255 := gB_and hz675120 (gBl (show Int32.toInt 255 = 255 by decide)) (by decide)
  refine G_i2c dr_cJ1_charAt_3b067_13 (G_nam fun z675121 hz675121 => ?_)
  have ez675121 : z675121.toInt = z675120.toInt := gI_i2c hz675121 (by omega) (by omega)
  have bz675121 : gB z675121 0 255 := ⟨by omega, by omega⟩
  exact G_zretA FieldType.char dr_cJ1_charAt_3b067_14 rfl (gN_char (gB_w bz675121 (by decide) (by decide))) (Nat.le_of_ble_eq_true rfl) (Nat.le_of_ble_eq_true rfl) ⟨z675121, rfl, rfl, (Nat.le_of_ble_eq_true rfl), (Nat.le_of_ble_eq_true rfl), bz675121, (chP_of (by assumption) (by assumption) (by omega) (chb lbs675108 (by assumption))), (fun R c1 => c1 z675112 z675119 z675120 z675121 ez675112 ht675118 hz675119 hz675120 hz675121)⟩
/- tr_RString_charAt2: result -/
def tr_RString_charAt2 (bs : List Int32) (a1 : Int32) (o1 : Int32) : Prop := ∀ R : (Int32) → Prop,
  (∀ (x1 : Int32), gB x1 0 255 → tr_RStringLatin1_charAt2 bs a1 x1 → R x1) →
  R o1
abbrev ky_675099_String_charAt : gKey := (cJ0_charAt_5068e, 2, "java/lang/String", (some FieldType.char), [], "charAt", fun _ _ => True)
def pp_675099_String_charAt (D : va_G) (I : FieldType → ClassId) (P675092 : List Nat) (F675093 : Nat → va_E) (qs675094 : Nat) (qb675095 : Nat) (bs675096 : List Int32) (p675097 : Int32) : Option Value → va_W → Nat → Nat → Prop := fun r w dc ds => ∃ (o675131 : Int32), r = some (.int o675131) ∧ w = va_pl P675092 F675093 ∧ dc ≤ 0 ∧ ds ≤ 0 ∧ gB o675131 0 255 ∧ chP (fun j => bs675096.getD j 0) p675097 o675131 ∧ tr_RString_charAt2 bs675096 p675097 o675131
set_option maxRecDepth 100000 in
set_option maxHeartbeats 4000000 in
theorem cp_675099_String_charAt (l : Launch) (hl0 : l.stackTraces = false) (D : va_G) (I : FieldType → ClassId) (P675092 : List Nat) (F675093 : Nat → va_E) (qs675094 : Nat) (qb675095 : Nat) (bs675096 : List Int32) (p675097 : Int32) (hbs675096 : ∀ A s H, (gV D I).2.2.2.1 A s H → gSC qs675094 qb675095 bs675096 A s H) (nbs675096 : (bs675096.length : Int) ≤ 65535) (lbs675096 : gLB bs675096) (bp675097 : gB p675097 0 65535) (x675098 : p675097.toInt < (bs675096.length : Int)) : CtA (gV D I) l yJ0_charAt_5068e cJ0_charAt_5068e 2 (some FieldType.char) 3 64 0 0 [.ref qs675094, .int p675097] (va_pl P675092 F675093) (pp_675099_String_charAt D I P675092 F675093 qs675094 qb675095 bs675096 p675097) gNA := by
  refine CtA_ofF hl0 (by decide +kernel) (Nat.le_of_ble_eq_true rfl) ?_
  refine G_aload_n 0 dr_cJ0_charAt_5068e_0 rfl ?_
  refine Gw_callVk (As := []) (gV_ok D I) (cp_660141_String_isLatin1 l hl0 D I P675092 F675093 qs675094 qb675095 bs675096 hbs675096 nbs675096 lbs675096) dr_cJ0_charAt_5068e_1 ⟨wr_3_71, wr_1_21, wr_3_74, by decide, rfl, (Nat.le_of_ble_eq_true rfl), (Nat.le_of_ble_eq_true rfl)⟩ wr_3_72 wr_3_73 (fun _ _ _ h => (hbs675096 _ _ _ h).1) (show 0 + 0 ≤ 0 by first | omega | decide) (show 0 + 0 ≤ 0 by first | omega | decide) (Nat.le_of_ble_eq_true rfl) (fun r675103 w675104 dc675100 ds675101 hp675102 => ?_) (fun _ _ _ _ _ z => z.elim)
  obtain ⟨rfl, rfl, hdc, hds⟩ := hp675102
  change G _ _ _ _ _ _ _ (.int 1 :: _) _ _ _
  refine G_widen (cs' := 0) (sl' := 0) (by omega) (by omega) ?_
  refine G_if_eq 16 dr_cJ0_charAt_5068e_4 (by decide +kernel) (fun hc => absurd hc (by decide)) (fun _ => ?_)
  refine G_aload_n 0 dr_cJ0_charAt_5068e_7 rfl ?_
  refine G_kget dr_cJ0_charAt_5068e_8 wr_8_182 (fun _ _ _ h => (hbs675096 _ _ _ h).2.2.1) ?_
  refine G_iload_n 1 dr_cJ0_charAt_5068e_11 rfl ?_
  refine Gw_callS (As := [.ref qb675095, .int p675097]) (gV_ok D I) (cp_675111_StringLatin1_charAt l hl0 D I P675092 F675093 qb675095 bs675096 p675097 (fun _ _ _ h => (hbs675096 _ _ _ h).2.2.2) (by omega) lbs675096 (gB_w bp675097 (by decide) (by decide)) (by omega)) dr_cJ0_charAt_5068e_12 ⟨wr_3_75, wr_1_28, wr_3_77, by decide, rfl, (Nat.le_of_ble_eq_true rfl), (Nat.le_of_ble_eq_true rfl)⟩ wr_3_76 (show 0 + 0 ≤ 0 by first | omega | decide) (show 0 + 0 ≤ 0 by first | omega | decide) (Nat.le_of_ble_eq_true rfl) (fun r675126 w675127 dc675123 ds675124 hp675125 => ?_) (fun _ _ _ _ _ z => z.elim)
  obtain ⟨o675128, rfl, rfl, hdc, hds, bo675128, x675129, ht675130⟩ := hp675125
  change G _ _ _ _ _ _ _ (.int o675128 :: _) _ _ _
  refine G_widen (cs' := 0) (sl' := 0) (by omega) (by omega) ?_
  exact G_zretA FieldType.char dr_cJ0_charAt_5068e_15 rfl (gN_char (gB_w bo675128 (by decide) (by decide))) (Nat.le_of_ble_eq_true rfl) (Nat.le_of_ble_eq_true rfl) ⟨o675128, rfl, rfl, (Nat.le_of_ble_eq_true rfl), (Nat.le_of_ble_eq_true rfl), bo675128, x675129, (fun R c1 => c1 o675128 bo675128 ht675130)⟩
/- tl_RModel_operation_40: l3, l2; out: l2 -/
def tl_RModel_operation_40 (c1 : Int32) (s1 : Int32) (s2 : Int32) (k : Nat) (e1 : Int32) : Prop := ∀ R : (Int32) → (Int32) → Nat → (Int32) → Prop,
  (∀ (l3_1 : Int32) (l2_1 : Int32), gB l3_1 0 16777215 → c1.toInt ≤ l3_1.toInt → R l3_1 l2_1 70 l2_1) →
  (∀ (l3_1 : Int32) (l2_1 : Int32) (x1 : Int32) (x2 : Int32) (x3 : Int32) (k : Nat) (e1 : Int32), gB l3_1 0 16777215 → l3_1.toInt < c1.toInt → gB x1 0 255 → tr_RString_charAt2 sb_42 l3_1 x1 → x1.toInt ≠ 32 → x2.toInt = l2_1.toInt + 0 → x3.toInt = l3_1.toInt + 1 → R x3 x2 k e1 → R l3_1 l2_1 k e1) →
  (∀ (l3_1 : Int32) (l2_1 : Int32) (x1 : Int32) (x2 : Int32) (x3 : Int32) (k : Nat) (e1 : Int32), gB l3_1 0 16777215 → l3_1.toInt < c1.toInt → gB x1 0 255 → tr_RString_charAt2 sb_42 l3_1 x1 → x1.toInt = 32 → x2.toInt = l2_1.toInt + 1 → x3.toInt = l3_1.toInt + 1 → R x3 x2 k e1 → R l3_1 l2_1 k e1) →
  R s1 s2 k e1
/- tr_RModel_operation: result -/
def tr_RModel_operation (a0_value_v : Nat → Int32) (a0_value_n : Nat) (o1 : Int32) : Prop := ∀ R : (Int32) → Prop,
  (∀ (x1 : Int32) (x2 : Nat → Int32) (x3 : Int32) (x4 : Nat → Int32) (x5 : Int32) (x6 : Nat → Int32) (x7 : Nat) (x8 : Nat → Int32) (x9 : Int32) (x10 : Int32), gB x1 0 16777216 → (tr_RStringBuilder_append4 sb_43 (0 : Int32) (fun _ => 0) 16 x1 x2) → gB x3 0 16777216 → tr_RStringBuilder_append3 x1 x2 16 a0_value_v a0_value_n x3 x4 → gB x5 0 16777216 → tr_RStringBuilder_append4 sb_43 x3 x4 16 x5 x6 → tr_RStringBuilder_toString x5 x6 16 x7 x8 → gB x9 (-2147483646) 16777215 → tr_RString_indexOf sb_42 x8 x7 x9 → 0 ≤ x9.toInt → tl_RModel_operation_40 x9 (0 : Int32) (1 : Int32) 70 x10 → R x10) →
  (∀ (x1 : Int32) (x2 : Nat → Int32) (x3 : Int32) (x4 : Nat → Int32) (x5 : Int32) (x6 : Nat → Int32) (x7 : Nat) (x8 : Nat → Int32) (x9 : Int32), gB x1 0 16777216 → (tr_RStringBuilder_append4 sb_43 (0 : Int32) (fun _ => 0) 16 x1 x2) → gB x3 0 16777216 → tr_RStringBuilder_append3 x1 x2 16 a0_value_v a0_value_n x3 x4 → gB x5 0 16777216 → tr_RStringBuilder_append4 sb_43 x3 x4 16 x5 x6 → tr_RStringBuilder_toString x5 x6 16 x7 x8 → gB x9 (-2147483646) 16777215 → tr_RString_indexOf sb_42 x8 x7 x9 → x9.toInt < 0 → R (0 : Int32)) →
  R o1
abbrev ky_674942_SpillForgeModel_operation : gKey := (cX17_operation, 4, "SpillForgeModel", (some FieldType.int), [], "operation", fun _ _ => True)
def pp_674942_SpillForgeModel_operation (D : va_G) (I : FieldType → ClassId) (P674932 : List Nat) (F674933 : Nat → va_E) (q674934 : Nat) (q674935 : Nat) (p674936 : Int32) (p674937 : Int32) (f674938 : Nat → Int32) (n674939 : Nat) : Option Value → va_W → Nat → Nat → Prop := fun r w dc ds => ∃ (P675297 : List Nat) (F675298 : Nat → va_E) (o675296 : Int32), r = some (.int o675296) ∧ w = va_pl P675297 F675298 ∧ rSub P674932 P675297 ∧ rFr [] P674932 F674933 F675298 ∧ F675298 q674934 = .inr (0, [.ref q674935, .int 0, .int p674936, .int p674937]) ∧ F675298 q674935 = .inl (I .byte, n674939, .inl f674938) ∧ dc ≤ 8 ∧ ds ≤ 64 ∧ gB o675296 0 14 ∧ 0 ≤ o675296.toInt ∧ o675296.toInt ≤ 14 ∧ tr_RModel_operation f674938 n674939 o675296
set_option maxRecDepth 100000 in
set_option maxHeartbeats 4000000 in
theorem cp_674942_SpillForgeModel_operation (l : Launch) (hl0 : l.stackTraces = false) (D : va_G) (I : FieldType → ClassId) (P674932 : List Nat) (F674933 : Nat → va_E) (q674934 : Nat) (q674935 : Nat) (p674936 : Int32) (p674937 : Int32) (f674938 : Nat → Int32) (n674939 : Nat) (hmq674934 : q674934 ∈ P674932) (hmq674935 : q674935 ∈ P674932) (heq674934 : F674933 q674934 = .inr (0, [.ref q674935, .int 0, .int p674936, .int p674937])) (heq674935 : F674933 q674935 = .inl (I .byte, n674939, .inl f674938)) (bp674937 : gB p674937 0 1) (bf674938 : gF f674938 (-128) 127) (x674940 : (n674939 : Int) ≤ 2) (x674941 : ((n674939 : Int) ≤ 16777216)) : CtA (gV D I) l yX17_operation cX17_operation 4 (some FieldType.int) 6 132 8 64 [.ref q674934] (va_pl P674932 F674933) (pp_674942_SpillForgeModel_operation D I P674932 F674933 q674934 q674935 p674936 p674937 f674938 n674939) gNA := by
  refine CtA_of hl0 (by decide) (Nat.le_of_ble_eq_true rfl) ?_
  have bp674936 := gB_any p674936
  refine G_ldcK (a := D.2 1000 42) dr_cX17_operation_0 (fun _ _ _ h => gx_vk 42 rfl rfl h) ?_
  have hl42_674942 : (sb_42.length : Int) = 34 := rfl
  refine G_new [.null, .int 0, .int 0, .int 0] dr_cX17_operation_2 (gk_J4 D I) wr_7_43 wr_7_44 wr_1_20 (gfs_J4) (show 0 + 1 ≤ 8 by first | omega | decide) (show 0 + 4 ≤ 64 by first | omega | decide) (fun q674944 => Gp_in (fun P674945 F674946 hq674947 hP674948 e674949 n674950 => ?_))
  refine G_widen (cs' := 1) (sl' := 4) (by omega) (by omega) ?_
  have he674951 : F674946 q674934 = .inr (0, [.ref q674935, .int 0, .int p674936, .int p674937]) := (n674950 q674934 (fun h => hq674947 (h ▸ hmq674934))).trans heq674934
  have he674952 : F674946 q674935 = .inl (I .byte, n674939, .inl f674938) := (n674950 q674935 (fun h => hq674947 (h ▸ hmq674935))).trans heq674935
  have he674953 : F674946 q674944 = .inr (1, [.null, .int 0, .int 0, .int 0]) := e674949
  have hm674954 : q674934 ∈ P674945 := (hP674948 q674934).mpr (Or.inl hmq674934)
  have hm674955 : q674935 ∈ P674945 := (hP674948 q674935).mpr (Or.inl hmq674935)
  have hm674956 : q674944 ∈ P674945 := (hP674948 q674944).mpr (Or.inr rfl)
  have hq674957 : q674944 ∉ P674932 := fun z => hq674947 ((rSub_rf (P := P674932)) q674944 z)
  have hfr674958 : rFr [] P674932 F674933 F674946 := rFr_new (rSub_rf (P := P674932)) hq674947 (rFr_rf (W := []) (P := P674932) (F := F674933)) n674950
  have hsb674959 : rSub P674932 P674945 := rSub_new (rSub_rf (P := P674932)) hP674948
  refine G_dup dr_cX17_operation_5 rfl ?_
  refine Gw_callI (As := []) (gV_ok D I) (cp_658952_StringBuilder_init l hl0 D I P674945 F674946 q674944 0 0 hm674956 he674953 (gB_w (gBl (show Int32.toInt 0 = 0 by decide)) (by decide) (by decide)) (gB_w (gBl (show Int32.toInt 0 = 0 by decide)) (by decide) (by decide))) dr_cX17_operation_6 ⟨wr_7_45, wr_1_20, wr_7_47, by decide, rfl, (Nat.le_of_ble_eq_true rfl), (Nat.le_of_ble_eq_true rfl)⟩ wr_7_46 rfl (show 1 + 1 ≤ 8 by first | omega | decide) (show 4 + 16 ≤ 64 by first | omega | decide) (Nat.le_of_ble_eq_true rfl) (fun r674963 w674964 dc674960 ds674961 hp674962 => ?_)
  obtain ⟨P674966, F674967, q674965, rfl, rfl, hsb674968, hfr674969, he674970, he674971, hm674972, hq674973, hdc, hds⟩ := hp674962
  have hm674974 : q674934 ∈ P674966 := hsb674968 q674934 hm674954
  have hm674975 : q674935 ∈ P674966 := hsb674968 q674935 hm674955
  have hm674976 : q674944 ∈ P674966 := hsb674968 q674944 hm674956
  have hq674977 : q674965 ∉ P674932 := fun z => hq674973 (hsb674959 q674965 z)
  have hsb674978 : rSub P674932 P674966 := rSub_tr hsb674959 hsb674968
  have he674979 : F674967 q674934 = .inr (0, [.ref q674935, .int 0, .int p674936, .int p674937]) := (hfr674969 q674934 hm674954 (nm_c (fun h => hq674957 (h ▸ hmq674934)) nm_n)).trans he674951
  have he674980 : F674967 q674935 = .inl (I .byte, n674939, .inl f674938) := (hfr674969 q674935 hm674955 (nm_c (fun h => hq674957 (h ▸ hmq674935)) nm_n)).trans he674952
  have hfr674981 : rFr [] P674932 F674933 F674967 := rFr_call hsb674959 hfr674958 hfr674969 (fun b hb hn => ⟨nm_n, (nm_c (fun e => hq674957 (e ▸ hb)) nm_n)⟩)
  change G _ _ _ _ _ _ _ _ _ _ _
  refine G_widen (cs' := 2) (sl' := 20) (by omega) (by omega) ?_
  refine G_ldcK (a := D.2 1000 43) dr_cX17_operation_9 (fun _ _ _ h => gx_vk 43 rfl rfl h) ?_
  have hl43_674981 : (sb_43.length : Int) = 1 := rfl
  refine Gw_callV (As := [.ref (D.2 1000 43)]) (gV_ok D I) (cp_659254_StringBuilder_append l hl0 D I P674966 F674967 q674944 q674965 (D.2 1000 43) (D.2 1001 43) sb_43 0 0 (fun _ => 0) 16 hm674976 hm674972 he674970 he674971 (gx_sc 43 rfl rfl) (by omega) (by decide +kernel) (gB_w (gBl (show Int32.toInt 0 = 0 by decide)) (by decide) (by decide)) (gB_w (gBl (show Int32.toInt 0 = 0 by decide)) (by decide) (by decide)) (gF_w gF_0 (by decide) (by decide)) (by have qa0 : Int32.toInt 0 = 0 := (by decide); omega) (by have qa0 : Int32.toInt 0 = 0 := (by decide); omega)) dr_cX17_operation_11 ⟨wr_10_100, wr_1_20, wr_8_143, by decide, rfl, (Nat.le_of_ble_eq_true rfl), (Nat.le_of_ble_eq_true rfl)⟩ wr_8_141 wr_8_142 hm674976 he674970 rfl (show 2 + 0 ≤ 8 by first | omega | decide) (show 20 + 0 ≤ 64 by first | omega | decide) (Nat.le_of_ble_eq_true rfl) (fun r674986 w674987 dc674983 ds674984 hp674985 => ?_) (fun _ _ _ _ _ z => z.elim)
  obtain ⟨F674994, o674988, f674989, rfl, rfl, hfr674996, he674997, he674998, hdc, hds, bo674988, bf674989, x674990, x674991, x674992, ht674993⟩ := hp674985
  have he674999 : F674994 q674934 = .inr (0, [.ref q674935, .int 0, .int p674936, .int p674937]) := (hfr674996 q674934 hm674974 (nm_c (fun h => hq674957 (h ▸ hmq674934)) (nm_c (fun h => hq674977 (h ▸ hmq674934)) nm_n))).trans he674979
  have he675000 : F674994 q674935 = .inl (I .byte, n674939, .inl f674938) := (hfr674996 q674935 hm674975 (nm_c (fun h => hq674957 (h ▸ hmq674935)) (nm_c (fun h => hq674977 (h ▸ hmq674935)) nm_n))).trans he674980
  have hfr675001 : rFr [] P674932 F674933 F674994 := rFr_call hsb674978 hfr674981 hfr674996 (fun b hb hn => ⟨nm_n, (nm_c (fun e => hq674957 (e ▸ hb)) (nm_c (fun e => hq674977 (e ▸ hb)) nm_n))⟩)
  rw [show Int32.toInt 0 = 0 from by decide] at x674990
  rw [show Int32.toInt 0 = 0 from by decide] at x674991
  rw [show Int32.toInt 0 = 0 from by decide] at x674992
  change G _ _ _ _ _ _ _ (.ref q674944 :: _) _ _ _
  refine G_widen (cs' := 2) (sl' := 20) (by omega) (by omega) ?_
  refine G_aload_n 0 dr_cX17_operation_14 rfl ?_
  refine Gw_callV (As := [.ref q674934]) (gV_ok D I) (cp_659026_StringBuilder_append l hl0 D I P674966 F674994 q674944 q674934 q674965 q674935 0 o674988 p674936 p674937 f674989 16 f674938 n674939 hm674976 hm674974 hm674972 hm674975 he674997 he674999 he674998 he675000 (fun h => hq674977 (h ▸ hmq674935)) (gB_w (gBl (show Int32.toInt 0 = 0 by decide)) (by decide) (by decide)) bo674988 bp674937 bf674989 bf674938 (by have qa0 : Int32.toInt 0 = 0 := (by decide); omega) (by have qa0 : Int32.toInt 0 = 0 := (by decide); omega) (by have qa0 : Int32.toInt 0 = 0 := (by decide); omega)) dr_cX17_operation_15 ⟨wr_10_100, wr_1_20, wr_8_143, by decide, rfl, (Nat.le_of_ble_eq_true rfl), (Nat.le_of_ble_eq_true rfl)⟩ wr_8_141 wr_8_142 hm674976 he674997 rfl (show 2 + 0 ≤ 8 by first | omega | decide) (show 20 + 0 ≤ 64 by first | omega | decide) (Nat.le_of_ble_eq_true rfl) (fun r675005 w675006 dc675002 ds675003 hp675004 => ?_) (fun _ _ _ _ _ z => z.elim)
  obtain ⟨F675013, o675007, f675008, rfl, rfl, hfr675015, he675016, he675017, he675018, he675019, hdc, hds, bo675007, bf675008, x675009, x675010, x675011, ht675012⟩ := hp675004
  have hfr675020 : rFr [] P674932 F674933 F675013 := rFr_call hsb674978 hfr675001 hfr675015 (fun b hb hn => ⟨nm_n, (nm_c (fun e => hq674957 (e ▸ hb)) (nm_c (fun e => hq674977 (e ▸ hb)) nm_n))⟩)
  change G _ _ _ _ _ _ _ (.ref q674944 :: _) _ _ _
  refine G_widen (cs' := 2) (sl' := 20) (by omega) (by omega) ?_
  refine G_ldcK (a := D.2 1000 43) dr_cX17_operation_18 (fun _ _ _ h => gx_vk 43 rfl rfl h) ?_
  have hl43_675020 : (sb_43.length : Int) = 1 := rfl
  refine Gw_callV (As := [.ref (D.2 1000 43)]) (gV_ok D I) (cp_659254_StringBuilder_append l hl0 D I P674966 F675013 q674944 q674965 (D.2 1000 43) (D.2 1001 43) sb_43 0 o675007 f675008 16 hm674976 hm674972 he675016 he675018 (gx_sc 43 rfl rfl) (by omega) (by decide +kernel) (gB_w (gBl (show Int32.toInt 0 = 0 by decide)) (by decide) (by decide)) bo675007 bf675008 (by have qa0 : Int32.toInt 0 = 0 := (by decide); omega) (by have qa0 : Int32.toInt 0 = 0 := (by decide); omega)) dr_cX17_operation_20 ⟨wr_10_100, wr_1_20, wr_8_143, by decide, rfl, (Nat.le_of_ble_eq_true rfl), (Nat.le_of_ble_eq_true rfl)⟩ wr_8_141 wr_8_142 hm674976 he675016 rfl (show 2 + 0 ≤ 8 by first | omega | decide) (show 20 + 0 ≤ 64 by first | omega | decide) (Nat.le_of_ble_eq_true rfl) (fun r675025 w675026 dc675022 ds675023 hp675024 => ?_) (fun _ _ _ _ _ z => z.elim)
  obtain ⟨F675033, o675027, f675028, rfl, rfl, hfr675035, he675036, he675037, hdc, hds, bo675027, bf675028, x675029, x675030, x675031, ht675032⟩ := hp675024
  have he675038 : F675033 q674934 = .inr (0, [.ref q674935, .int 0, .int p674936, .int p674937]) := (hfr675035 q674934 hm674974 (nm_c (fun h => hq674957 (h ▸ hmq674934)) (nm_c (fun h => hq674977 (h ▸ hmq674934)) nm_n))).trans he675017
  have he675039 : F675033 q674935 = .inl (I .byte, n674939, .inl f674938) := (hfr675035 q674935 hm674975 (nm_c (fun h => hq674957 (h ▸ hmq674935)) (nm_c (fun h => hq674977 (h ▸ hmq674935)) nm_n))).trans he675019
  have hfr675040 : rFr [] P674932 F674933 F675033 := rFr_call hsb674978 hfr675020 hfr675035 (fun b hb hn => ⟨nm_n, (nm_c (fun e => hq674957 (e ▸ hb)) (nm_c (fun e => hq674977 (e ▸ hb)) nm_n))⟩)
  change G _ _ _ _ _ _ _ (.ref q674944 :: _) _ _ _
  refine G_widen (cs' := 2) (sl' := 20) (by omega) (by omega) ?_
  refine Gw_callV (As := []) (gV_ok D I) (cp_659727_StringBuilder_toString l hl0 D I P674966 F675033 q674944 q674965 0 o675027 f675028 16 hm674976 hm674972 he675036 he675037 (gB_w (gBl (show Int32.toInt 0 = 0 by decide)) (by decide) (by decide)) bo675027 bf675028 (by have qa0 : Int32.toInt 0 = 0 := (by decide); omega) (by have qa0 : Int32.toInt 0 = 0 := (by decide); omega)) dr_cX17_operation_23 ⟨wr_10_101, wr_1_20, wr_8_69, by decide, rfl, (Nat.le_of_ble_eq_true rfl), (Nat.le_of_ble_eq_true rfl)⟩ wr_8_67 wr_8_68 hm674976 he675036 rfl (show 2 + 2 ≤ 8 by first | omega | decide) (show 20 + (o675027.toInt.toNat + 4) ≤ 64 by first | omega | decide) (Nat.le_of_ble_eq_true rfl) (fun r675044 w675045 dc675041 ds675042 hp675043 => ?_) (fun _ _ _ _ _ z => z.elim)
  obtain ⟨P675053, F675054, q675046, q675047, n675048, f675049, rfl, rfl, hsb675055, hfr675056, he675057, he675058, he675059, he675060, hm675061, hq675062, hm675063, hq675064, hdc, hds, bf675049, x675050, x675051, ht675052⟩ := hp675043
  have hm675065 : q674934 ∈ P675053 := hsb675055 q674934 hm674974
  have hm675066 : q674935 ∈ P675053 := hsb675055 q674935 hm674975
  have hm675067 : q674944 ∈ P675053 := hsb675055 q674944 hm674976
  have hm675068 : q674965 ∈ P675053 := hsb675055 q674965 hm674972
  have hq675069 : q675046 ∉ P674932 := fun z => hq675062 (hsb674978 q675046 z)
  have hq675070 : q675047 ∉ P674932 := fun z => hq675064 (hsb674978 q675047 z)
  have hsb675071 : rSub P674932 P675053 := rSub_tr hsb674978 hsb675055
  have he675072 : F675054 q674934 = .inr (0, [.ref q674935, .int 0, .int p674936, .int p674937]) := (hfr675056 q674934 hm674974 nm_n).trans he675038
  have he675073 : F675054 q674935 = .inl (I .byte, n674939, .inl f674938) := (hfr675056 q674935 hm674975 nm_n).trans he675039
  have hfr675074 : rFr [] P674932 F674933 F675054 := rFr_call hsb674978 hfr675040 hfr675056 (fun b hb hn => ⟨nm_n, nm_n⟩)
  have hne675075 : q674965 ≠ q675047 := fun h => hq675064 (h ▸ hm674972)
  change G _ _ _ _ _ _ _ (.ref q675046 :: _) _ _ _
  refine G_widen (cs' := 4) (sl' := 20 + (o675027.toInt.toNat + 4)) (by omega) (by omega) ?_
  refine Gw_callVk (As := [.ref q675046]) (gV_ok D I) (cp_660186_String_indexOf l hl0 D I P675053 F675054 q675046 q675047 (D.2 1000 42) (D.2 1001 42) sb_42 0 0 f675049 n675048 hm675061 hm675063 he675057 he675060 (gx_sc 42 rfl rfl) (by omega) (by decide +kernel) (gB_w (gBl (show Int32.toInt 0 = 0 by decide)) (by decide) (by decide)) bf675049 (by have qa0 : Int32.toInt 0 = 0 := (by decide); omega) (by have qa0 : Int32.toInt 0 = 0 := (by decide); omega)) dr_cX17_operation_26 ⟨wr_10_102, wr_1_21, wr_8_199, by decide, rfl, (Nat.le_of_ble_eq_true rfl), (Nat.le_of_ble_eq_true rfl)⟩ wr_8_197 wr_8_198 (fun _ _ _ h => ((gx_sc 42 rfl rfl) _ _ _ h).1) (show 4 + 0 ≤ 8 by first | omega | decide) (show 20 + (o675027.toInt.toNat + 4) + 0 ≤ 64 by first | omega | decide) (Nat.le_of_ble_eq_true rfl) (fun r675079 w675080 dc675076 ds675077 hp675078 => ?_) (fun _ _ _ _ _ z => z.elim)
  obtain ⟨o675081, rfl, rfl, hdc, hds, bo675081, x675082, x675083, ht675084⟩ := hp675078
  change G _ _ _ _ _ _ _ (.int o675081 :: _) _ _ _
  refine G_widen (cs' := 4) (sl' := 20 + (o675027.toInt.toNat + 4) + 0) (by omega) (by omega) ?_
  refine G_istore_n (L' := [(1, .int o675081), (0, .ref q674934)]) dr_cX17_operation_29 (Nat.le_of_ble_eq_true rfl) rfl ?_
  refine G_iload_n 0 dr_cX17_operation_30 rfl ?_
  refine G_if_ge 36 dr_cX17_operation_31 (by decide +kernel) (fun hc675085 => ?_) (fun hc675085 => ?_)
  · have r675086 : 0 ≤ o675081.toInt := gj_leL hc675085 (show Int32.toInt 0 = 0 by decide)
    have bo675081' : gB o675081 0 16777215 := ⟨by omega, by omega⟩
    have x675087 : o675081.toInt ≤ 30 := opA x674992 x675010 x675030 x675051 x675083 (by omega) (by omega) rfl (by omega) (by omega) (by omega) (by omega) (by omega)
    refine G_iconst 1 dr_cX17_operation_36 (by decide +kernel) ?_
    refine G_istore_n (L' := [(2, .int 1), (1, .int o675081), (0, .ref q674934)]) dr_cX17_operation_37 (Nat.le_of_ble_eq_true rfl) rfl ?_
    refine G_iconst 0 dr_cX17_operation_38 (by decide +kernel) ?_
    refine G_istore_n (L' := [(3, .int 0), (2, .int 1), (1, .int o675081), (0, .ref q674934)]) dr_cX17_operation_39 (Nat.le_of_ble_eq_true rfl) rfl ?_
    have hlp40_675272 : ∀ (n40_675272 : Nat) (g675269 : Int32) (g675270 : Int32), gB g675269 0 16777215 → opI g675269 g675270 → g675269.toInt ≤ o675081.toInt → (∀ (k : Nat) (e1 : Int32), tl_RModel_operation_40 o675081 g675269 g675270 k e1 → tl_RModel_operation_40 o675081 (0 : Int32) (1 : Int32) k e1) → ((16777216 : Int) - g675269.toInt).toNat < n40_675272 → G (gV D I) l (gRm 6 132 8 64) (gMA (gV D I) (pp_674942_SpillForgeModel_operation D I P674932 F674933 q674934 q674935 p674936 p674937 f674938 n674939) gNA 8 64) ky_674942_SpillForgeModel_operation 40 [(3, .int g675269), (2, .int g675270), (1, .int o675081), (0, .ref q674934)] [] (va_pl P675053 F675054) 4 (20 + (o675027.toInt.toNat + 4) + 0) := by
      intro n40_675272
      induction n40_675272 with
      | zero => intro g675269 g675270 bg675269 x675271 x675272 kt40_675272 hm40_675272; exact absurd hm40_675272 (Nat.not_lt_zero _)
      | succ n40_675272 ih40_675272 =>
        intro g675269 g675270 bg675269 x675271 x675272 kt40_675272 hm40_675272
        have bg675270 := gB_any g675270
        refine G_iload_n 0 dr_cX17_operation_40 rfl ?_
        refine G_iload_n 2 dr_cX17_operation_41 rfl ?_
        refine G_icmp_ge 70 dr_cX17_operation_42 (by decide +kernel) (fun hc675273 => ?_) (fun hc675273 => ?_)
        · have r675274 : o675081.toInt ≤ g675269.toInt := gC_le hc675273
          have hx675275 : tl_RModel_operation_40 o675081 (0 : Int32) (1 : Int32) 70 g675270 := kt40_675272 70 g675270 (fun R c1 c2 c3 => c1 g675269 g675270 bg675269 r675274)
          have bx675276 : gB g675270 1 14 := opI_b x675271 (by omega)
          refine G_iload_n 1 dr_cX17_operation_70 rfl ?_
          exact G_iretA dr_cX17_operation_71 rfl (Nat.le_of_ble_eq_true rfl) (show 20 + (o675027.toInt.toNat + 4) + 0 ≤ 64 by omega) ⟨P675053, F675054, g675270, rfl, rfl, hsb675071, hfr675074, he675072, he675073, (Nat.le_of_ble_eq_true rfl), (by omega), (gB_w bx675276 (by decide) (by decide)), (by have qa0 : Int32.toInt 0 = 0 := (by decide); omega), (by have qa0 : Int32.toInt 0 = 0 := (by decide); omega), (fun R c1 c2 => c1 o674988 f674989 o675007 f675008 o675027 f675028 n675048 f675049 o675081 g675270 bo674988 ht674993 bo675007 ht675012 bo675027 ht675032 ht675052 bo675081 ht675084 r675086 hx675275)⟩
        · have r675277 : g675269.toInt < o675081.toInt := gC_nle hc675273
          have bg675269' : gB g675269 0 16777214 := ⟨by omega, by omega⟩
          have bo675081'' : gB o675081 1 16777215 := ⟨by omega, by omega⟩
          have bx675278 : gB g675270 1 14 := opI_b x675271 (by omega)
          refine G_iload_n 1 dr_cX17_operation_45 rfl ?_
          refine G_ldcK (a := D.2 1000 42) dr_cX17_operation_46 (fun _ _ _ h => gx_vk 42 rfl rfl h) ?_
          have hl42_675278 : (sb_42.length : Int) = 34 := rfl
          refine G_iload_n 0 dr_cX17_operation_48 rfl ?_
          refine Gw_callVk (As := [.int g675269]) (gV_ok D I) (cp_675099_String_charAt l hl0 D I P675053 F675054 (D.2 1000 42) (D.2 1001 42) sb_42 g675269 (gx_sc 42 rfl rfl) (by omega) (by decide +kernel) ⟨by omega, by omega⟩ (by have qa0 : Int32.toInt 0 = 0 := (by decide); omega)) dr_cX17_operation_49 ⟨wr_10_103, wr_1_21, wr_3_70, by decide, rfl, (Nat.le_of_ble_eq_true rfl), (Nat.le_of_ble_eq_true rfl)⟩ wr_3_68 wr_3_69 (fun _ _ _ h => ((gx_sc 42 rfl rfl) _ _ _ h).1) (show 4 + 0 ≤ 8 by first | omega | decide) (show 20 + (o675027.toInt.toNat + 4) + 0 + 0 ≤ 64 by first | omega | decide) (Nat.le_of_ble_eq_true rfl) (fun r675283 w675284 dc675280 ds675281 hp675282 => ?_) (fun _ _ _ _ _ z => z.elim)
          obtain ⟨o675285, rfl, rfl, hdc, hds, bo675285, x675286, ht675287⟩ := hp675282
          change G _ _ _ _ _ _ _ (.int o675285 :: _) _ _ _
          refine G_widen (cs' := 4) (sl' := 20 + (o675027.toInt.toNat + 4) + 0 + 0) (by omega) (by omega) ?_
          refine G_bipush 32 dr_cX17_operation_52 (by decide +kernel) ?_
          refine G_icmp_ne 61 dr_cX17_operation_54 (by decide +kernel) (fun hc675288 => ?_) (fun hc675288 => ?_)
          · have r675289 : o675285.toInt ≠ 32 := gj_neq hc675288 (show Int32.toInt 32 = 32 by decide)
            refine G_iconst 0 dr_cX17_operation_61 (by decide +kernel) ?_
            refine G_iadd dr_cX17_operation_62 (G_nam fun z675290 hz675290 => ?_)
            have ez675290 : z675290.toInt = g675270.toInt + 0 := by rw [gI_add hz675290 bx675278 (gBl (show Int32.toInt 0 = 0 by decide)) (by decide) (by decide), show Int32.toInt 0 = 0 from by decide]
            have bz675290 : gB z675290 1 14 := gB_add (gI_add hz675290 bx675278 (gBl (show Int32.toInt 0 = 0 by decide)) (by decide) (by decide)) bx675278 (gBl (show Int32.toInt 0 = 0 by decide)) (by decide) (by decide)
            refine G_istore_n (L' := [(2, .int z675290), (3, .int g675269), (1, .int o675081), (0, .ref q674934)]) dr_cX17_operation_63 (Nat.le_of_ble_eq_true rfl) rfl ?_
            obtain ⟨z675291, hz675291⟩ : ∃ z : Int32, z = g675269 + Int32.ofInt 1 := ⟨_, rfl⟩
            have ez675291 : z675291.toInt = g675269.toInt + 1 := gI_inc hz675291 (by decide) bg675269' (by decide) (by decide)
            have bz675291 : gB z675291 1 16777215 := ⟨by omega, by omega⟩
            refine G_iinc (L' := [(3, .int z675291), (2, .int z675290), (1, .int o675081), (0, .ref q674934)]) z675291 1 dr_cX17_operation_64 rfl hz675291.symm (Nat.le_of_ble_eq_true rfl) rfl ?_
            refine G_goto 40 dr_cX17_operation_67 (by decide +kernel) ?_
            exact ih40_675272 z675291 z675290 (gB_w bz675291 (by decide) (by decide)) (by have qa0 : Int32.toInt 0 = 0 := (by decide); have qa1 : Int32.toInt 1 = 1 := (by decide); first | exact opI_st (d := 1) x675271 (by omega) (by omega) (by omega) x675286 (Or.inl ⟨by omega, rfl⟩) | exact opI_st (d := 0) x675271 (by omega) (by omega) (by omega) x675286 (Or.inr ⟨by omega, rfl⟩)) (by have qa0 : Int32.toInt 0 = 0 := (by decide); omega) (fun k e1 ht => kt40_675272 k e1 (fun R c1 c2 c3 => c2 g675269 g675270 o675285 z675290 z675291 k e1 bg675269 r675277 bo675285 ht675287 r675289 ez675290 ez675291 (ht R c1 c2 c3))) (by have qa0 : Int32.toInt 0 = 0 := (by decide); omega)
          · have r675292 : o675285.toInt = 32 := gj_eq hc675288 (show Int32.toInt 32 = 32 by decide)
            have bo675285' : gB o675285 32 32 := ⟨by omega, by omega⟩
            refine G_iconst 1 dr_cX17_operation_57 (by decide +kernel) ?_
            refine G_goto 62 dr_cX17_operation_58 (by decide +kernel) ?_
            refine G_iadd dr_cX17_operation_62 (G_nam fun z675293 hz675293 => ?_)
            have ez675293 : z675293.toInt = g675270.toInt + 1 := by rw [gI_add hz675293 bx675278 (gBl (show Int32.toInt 1 = 1 by decide)) (by decide) (by decide), show Int32.toInt 1 = 1 from by decide]
            have bz675293 : gB z675293 2 15 := gB_add (gI_add hz675293 bx675278 (gBl (show Int32.toInt 1 = 1 by decide)) (by decide) (by decide)) bx675278 (gBl (show Int32.toInt 1 = 1 by decide)) (by decide) (by decide)
            refine G_istore_n (L' := [(2, .int z675293), (3, .int g675269), (1, .int o675081), (0, .ref q674934)]) dr_cX17_operation_63 (Nat.le_of_ble_eq_true rfl) rfl ?_
            obtain ⟨z675294, hz675294⟩ : ∃ z : Int32, z = g675269 + Int32.ofInt 1 := ⟨_, rfl⟩
            have ez675294 : z675294.toInt = g675269.toInt + 1 := gI_inc hz675294 (by decide) bg675269' (by decide) (by decide)
            have bz675294 : gB z675294 1 16777215 := ⟨by omega, by omega⟩
            refine G_iinc (L' := [(3, .int z675294), (2, .int z675293), (1, .int o675081), (0, .ref q674934)]) z675294 1 dr_cX17_operation_64 rfl hz675294.symm (Nat.le_of_ble_eq_true rfl) rfl ?_
            refine G_goto 40 dr_cX17_operation_67 (by decide +kernel) ?_
            exact ih40_675272 z675294 z675293 (gB_w bz675294 (by decide) (by decide)) (by have qa0 : Int32.toInt 0 = 0 := (by decide); have qa1 : Int32.toInt 1 = 1 := (by decide); first | exact opI_st (d := 1) x675271 (by omega) (by omega) (by omega) x675286 (Or.inl ⟨by omega, rfl⟩) | exact opI_st (d := 0) x675271 (by omega) (by omega) (by omega) x675286 (Or.inr ⟨by omega, rfl⟩)) (by have qa0 : Int32.toInt 0 = 0 := (by decide); omega) (fun k e1 ht => kt40_675272 k e1 (fun R c1 c2 c3 => c3 g675269 g675270 o675285 z675293 z675294 k e1 bg675269 r675277 bo675285 ht675287 r675292 ez675293 ez675294 (ht R c1 c2 c3))) (by have qa0 : Int32.toInt 0 = 0 := (by decide); omega)
    exact hlp40_675272 (((16777216 : Int) - 0).toNat + 1) 0 1 (gB_w (gBl (show Int32.toInt 0 = 0 by decide)) (by decide) (by decide)) opI_0 (by have qa0 : Int32.toInt 0 = 0 := (by decide); have qa1 : Int32.toInt 1 = 1 := (by decide); omega) (fun k e1 ht => ht) (Nat.lt_succ_self _)
  · have r675295 : o675081.toInt < 0 := gj_nleL hc675085 (show Int32.toInt 0 = 0 by decide)
    have bo675081' : gB o675081 (-2147483646) (-1) := ⟨by omega, by omega⟩
    refine G_iconst 0 dr_cX17_operation_34 (by decide +kernel) ?_
    exact G_iretA dr_cX17_operation_35 rfl (Nat.le_of_ble_eq_true rfl) (show 20 + (o675027.toInt.toNat + 4) + 0 ≤ 64 by omega) ⟨P675053, F675054, 0, rfl, rfl, hsb675071, hfr675074, he675072, he675073, (Nat.le_of_ble_eq_true rfl), (by omega), (gB_w (gBl (show Int32.toInt 0 = 0 by decide)) (by decide) (by decide)), (by have qa0 : Int32.toInt 0 = 0 := (by decide); omega), (by have qa0 : Int32.toInt 0 = 0 := (by decide); omega), (fun R c1 c2 => c2 o674988 f674989 o675007 f675008 o675027 f675028 n675048 f675049 o675081 bo674988 ht674993 bo675007 ht675012 bo675027 ht675032 ht675052 bo675081 ht675084 r675295)⟩
/- tr_RArrays_copyOf4: a.2.[] -/
def tr_RArrays_copyOf4 (a1 : Int32) (a0_v : Nat → Int32) (a0_n : Nat) (o1 : Nat → Int32) : Prop := ∀ R : (Nat → Int32) → Prop,
  (∀ (x1 : Int32) (x2 : Int32) (x3 : Int32) (x4 : Nat → Int32), x1.toInt = (a0_n : Nat) → a1.toInt ≠ x1.toInt → x2.toInt = (a0_n : Nat) → (x2.toInt ≥ x3.toInt ∧ a1.toInt ≥ x3.toInt ∧ (x3.toInt = x2.toInt ∨ x3.toInt = a1.toInt)) → (x4 = va_cpy a0_v (fun _ => 0) (0 : Int32).toNatClampNeg (0 : Int32).toNatClampNeg x3.toNatClampNeg) → R x4) →
  R o1
