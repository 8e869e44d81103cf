theorem dr_cX14_breaks_0 : decode cX14_breaks 0 = .ok (.aload_n 0, 1) := by decide +kernel
theorem dr_cX14_breaks_1 : decode cX14_breaks 1 = .ok (.getfield 17, 3) := by decide +kernel
theorem wr_9_44 : (Jvm.Cond.fieldLink "SpillForgeModel$Reader" (17 : Nat) "SpillForgeModel$Reader" "rulePlace" "I") ∈ gw := gw_9 44 rfl rfl
theorem dr_cX14_breaks_4 : decode cX14_breaks 4 = .ok (.ifCond .lt 27, 3) := by decide +kernel
theorem dr_cX14_breaks_31 : decode cX14_breaks 31 = .ok (.aload_n 0, 1) := by decide +kernel
theorem dr_cX14_breaks_32 : decode cX14_breaks 32 = .ok (.iload_n 2, 1) := by decide +kernel
theorem dr_cX14_breaks_33 : decode cX14_breaks 33 = .ok (.putfield 17, 3) := by decide +kernel
theorem dr_cX14_breaks_36 : decode cX14_breaks 36 = .ok (.aload_n 0, 1) := by decide +kernel
theorem dr_cX14_breaks_37 : decode cX14_breaks 37 = .ok (.iload_n 1, 1) := by decide +kernel
theorem dr_cX14_breaks_38 : decode cX14_breaks 38 = .ok (.putfield 140, 3) := by decide +kernel
theorem wr_9_46 : (Jvm.Cond.fieldLink "SpillForgeModel$Reader" (140 : Nat) "SpillForgeModel$Reader" "rule" "I") ∈ gw := gw_9 46 rfl rfl
theorem dr_cX14_breaks_41 : decode cX14_breaks 41 = .ok (.return_, 1) := by decide +kernel
theorem dr_cX14_breaks_7 : decode cX14_breaks 7 = .ok (.iload_n 2, 1) := by decide +kernel
theorem dr_cX14_breaks_8 : decode cX14_breaks 8 = .ok (.aload_n 0, 1) := by decide +kernel
theorem dr_cX14_breaks_9 : decode cX14_breaks 9 = .ok (.getfield 17, 3) := by decide +kernel
theorem dr_cX14_breaks_12 : decode cX14_breaks 12 = .ok (.if_icmp .lt 19, 3) := by decide +kernel
theorem dr_cX14_breaks_15 : decode cX14_breaks 15 = .ok (.iload_n 2, 1) := by decide +kernel
theorem dr_cX14_breaks_16 : decode cX14_breaks 16 = .ok (.aload_n 0, 1) := by decide +kernel
theorem dr_cX14_breaks_17 : decode cX14_breaks 17 = .ok (.getfield 17, 3) := by decide +kernel
theorem dr_cX14_breaks_20 : decode cX14_breaks 20 = .ok (.if_icmp .ne 21, 3) := by decide +kernel
theorem dr_cX14_breaks_23 : decode cX14_breaks 23 = .ok (.iload_n 1, 1) := by decide +kernel
theorem dr_cX14_breaks_24 : decode cX14_breaks 24 = .ok (.aload_n 0, 1) := by decide +kernel
theorem dr_cX14_breaks_25 : decode cX14_breaks 25 = .ok (.getfield 140, 3) := by decide +kernel
theorem dr_cX14_breaks_28 : decode cX14_breaks 28 = .ok (.if_icmp .ge 13, 3) := by decide +kernel
theorem dr_cX14_operand_0 : decode cX14_operand 0 = .ok (.aload_n 0, 1) := by decide +kernel
theorem dr_cX14_operand_1 : decode cX14_operand 1 = .ok (.getfield 38, 3) := by decide +kernel
theorem dr_cX14_operand_4 : decode cX14_operand 4 = .ok (.iconst 2, 1) := by decide +kernel
theorem dr_cX14_operand_5 : decode cX14_operand 5 = .ok (.if_icmp .ne 7, 3) := by decide +kernel
theorem dr_cX14_operand_12 : decode cX14_operand 12 = .ok (.iconst 0, 1) := by decide +kernel
theorem dr_cX14_operand_13 : decode cX14_operand 13 = .ok (.istore_n 3, 1) := by decide +kernel
theorem dr_cX14_operand_14 : decode cX14_operand 14 = .ok (.iload_n 3, 1) := by decide +kernel
theorem dr_cX14_operand_15 : decode cX14_operand 15 = .ok (.ifCond .ne 16, 3) := by decide +kernel
theorem dr_cX14_operand_18 : decode cX14_operand 18 = .ok (.aload_n 0, 1) := by decide +kernel
theorem dr_cX14_operand_19 : decode cX14_operand 19 = .ok (.getfield 38, 3) := by decide +kernel
theorem dr_cX14_operand_22 : decode cX14_operand 22 = .ok (.iconst 4, 1) := by decide +kernel
theorem dr_cX14_operand_23 : decode cX14_operand 23 = .ok (.if_icmp .eq 8, 3) := by decide +kernel
theorem dr_cX14_operand_31 : decode cX14_operand 31 = .ok (.iload_n 2, 1) := by decide +kernel
theorem dr_cX14_operand_32 : decode cX14_operand 32 = .ok (.ifCond .eq 19, 3) := by decide +kernel
theorem dr_cX14_operand_51 : decode cX14_operand 51 = .ok (.aload_n 1, 1) := by decide +kernel
theorem dr_cX14_operand_52 : decode cX14_operand 52 = .ok (.aload_n 0, 1) := by decide +kernel
theorem dr_cX14_operand_53 : decode cX14_operand 53 = .ok (.getfield 80, 3) := by decide +kernel
theorem dr_cX14_operand_56 : decode cX14_operand 56 = .ok (.putfield 214, 3) := by decide +kernel
theorem wr_9_187 : (Jvm.Cond.fieldLink "SpillForgeModel$Reader" (214 : Nat) "SpillForgeModel$Row" "a" "I") ∈ gw := gw_9 187 rfl rfl
theorem dr_cX14_operand_59 : decode cX14_operand 59 = .ok (.aload_n 1, 1) := by decide +kernel
theorem dr_cX14_operand_60 : decode cX14_operand 60 = .ok (.iload_n 3, 1) := by decide +kernel
theorem dr_cX14_operand_61 : decode cX14_operand 61 = .ok (.putfield 217, 3) := by decide +kernel
theorem wr_9_198 : (Jvm.Cond.fieldLink "SpillForgeModel$Reader" (217 : Nat) "SpillForgeModel$Row" "regA" "Z") ∈ gw := gw_9 198 rfl rfl
theorem dr_cX14_operand_64 : decode cX14_operand 64 = .ok (.aload_n 0, 1) := by decide +kernel
theorem dr_cX14_operand_65 : decode cX14_operand 65 = .ok (.invokevirtual 35, 3) := by decide +kernel
theorem dr_cX14_operand_68 : decode cX14_operand 68 = .ok (.return_, 1) := by decide +kernel
theorem dr_cX14_operand_35 : decode cX14_operand 35 = .ok (.aload_n 1, 1) := by decide +kernel
theorem dr_cX14_operand_36 : decode cX14_operand 36 = .ok (.aload_n 0, 1) := by decide +kernel
theorem dr_cX14_operand_37 : decode cX14_operand 37 = .ok (.getfield 80, 3) := by decide +kernel
theorem dr_cX14_operand_40 : decode cX14_operand 40 = .ok (.putfield 205, 3) := by decide +kernel
theorem wr_9_191 : (Jvm.Cond.fieldLink "SpillForgeModel$Reader" (205 : Nat) "SpillForgeModel$Row" "b" "I") ∈ gw := gw_9 191 rfl rfl
theorem dr_cX14_operand_43 : decode cX14_operand 43 = .ok (.aload_n 1, 1) := by decide +kernel
theorem dr_cX14_operand_44 : decode cX14_operand 44 = .ok (.iload_n 3, 1) := by decide +kernel
theorem dr_cX14_operand_45 : decode cX14_operand 45 = .ok (.putfield 210, 3) := by decide +kernel
theorem wr_9_201 : (Jvm.Cond.fieldLink "SpillForgeModel$Reader" (210 : Nat) "SpillForgeModel$Row" "regB" "Z") ∈ gw := gw_9 201 rfl rfl
theorem dr_cX14_operand_48 : decode cX14_operand 48 = .ok (.goto 16, 3) := by decide +kernel
theorem dr_cX14_operand_26 : decode cX14_operand 26 = .ok (.aload_n 0, 1) := by decide +kernel
theorem dr_cX14_operand_27 : decode cX14_operand 27 = .ok (.invokevirtual 136, 3) := by decide +kernel
theorem dr_cX14_operand_30 : decode cX14_operand 30 = .ok (.athrow, 1) := by decide +kernel
theorem dr_cX14_operand_8 : decode cX14_operand 8 = .ok (.iconst 1, 1) := by decide +kernel
theorem dr_cX14_operand_9 : decode cX14_operand 9 = .ok (.goto 4, 3) := by decide +kernel
theorem dr_cX17_operation_0 : decode cX17_operation 0 = .ok (.ldc 3, 2) := by decide +kernel
theorem dr_cX17_operation_2 : decode cX17_operation 2 = .ok (.new 5, 3) := by decide +kernel
theorem wr_7_43 : (Jvm.Cond.classLink "SpillForgeModel" (5 : Nat) "java/lang/StringBuilder") ∈ gw := gw_7 43 rfl rfl
theorem dr_cX17_operation_5 : decode cX17_operation 5 = .ok (.dup, 1) := by decide +kernel
theorem dr_cX17_operation_6 : decode cX17_operation 6 = .ok (.invokespecial 7, 3) := by decide +kernel
theorem wr_7_45 : (Jvm.Cond.methodLink "SpillForgeModel" (7 : Nat) ({ cls := "java/lang/StringBuilder", name := "<init>", desc := "()V" } : Jvm.MethodName)) ∈ gw := gw_7 45 rfl rfl
theorem dr_cX17_operation_9 : decode cX17_operation 9 = .ok (.ldc 11, 2) := by decide +kernel
theorem dr_cX17_operation_11 : decode cX17_operation 11 = .ok (.invokevirtual 13, 3) := by decide +kernel
theorem wr_10_100 : (Jvm.Cond.methodLink "SpillForgeModel" (13 : Nat) ({ cls := "java/lang/StringBuilder", name := "append", desc := "(Ljava/lang/String;)Ljava/lang/StringBuilder;" } : Jvm.MethodName)) ∈ gw := gw_10 100 rfl rfl
theorem dr_cX17_operation_14 : decode cX17_operation 14 = .ok (.aload_n 0, 1) := by decide +kernel
theorem dr_cX17_operation_15 : decode cX17_operation 15 = .ok (.invokevirtual 13, 3) := by decide +kernel
theorem dr_cX17_operation_18 : decode cX17_operation 18 = .ok (.ldc 11, 2) := by decide +kernel
theorem dr_cX17_operation_20 : decode cX17_operation 20 = .ok (.invokevirtual 13, 3) := by decide +kernel
theorem dr_cX17_operation_23 : decode cX17_operation 23 = .ok (.invokevirtual 17, 3) := by decide +kernel
theorem wr_10_101 : (Jvm.Cond.methodLink "SpillForgeModel" (17 : Nat) ({ cls := "java/lang/StringBuilder", name := "toString", desc := "()Ljava/lang/String;" } : Jvm.MethodName)) ∈ gw := gw_10 101 rfl rfl
theorem dr_cX17_operation_26 : decode cX17_operation 26 = .ok (.invokevirtual 21, 3) := by decide +kernel
theorem wr_10_102 : (Jvm.Cond.methodLink "SpillForgeModel" (21 : Nat) ({ cls := "java/lang/String", name := "indexOf", desc := "(Ljava/lang/String;)I" } : Jvm.MethodName)) ∈ gw := gw_10 102 rfl rfl
theorem dr_cX17_operation_29 : decode cX17_operation 29 = .ok (.istore_n 1, 1) := by decide +kernel
theorem dr_cX17_operation_30 : decode cX17_operation 30 = .ok (.iload_n 1, 1) := by decide +kernel
theorem dr_cX17_operation_31 : decode cX17_operation 31 = .ok (.ifCond .ge 5, 3) := by decide +kernel
theorem dr_cX17_operation_36 : decode cX17_operation 36 = .ok (.iconst 1, 1) := by decide +kernel
theorem dr_cX17_operation_37 : decode cX17_operation 37 = .ok (.istore_n 2, 1) := by decide +kernel
theorem dr_cX17_operation_38 : decode cX17_operation 38 = .ok (.iconst 0, 1) := by decide +kernel
theorem dr_cX17_operation_39 : decode cX17_operation 39 = .ok (.istore_n 3, 1) := by decide +kernel
theorem dr_cX17_operation_40 : decode cX17_operation 40 = .ok (.iload_n 3, 1) := by decide +kernel
theorem dr_cX17_operation_41 : decode cX17_operation 41 = .ok (.iload_n 1, 1) := by decide +kernel
theorem dr_cX17_operation_42 : decode cX17_operation 42 = .ok (.if_icmp .ge 28, 3) := by decide +kernel
theorem dr_cX17_operation_70 : decode cX17_operation 70 = .ok (.iload_n 2, 1) := by decide +kernel
theorem dr_cX17_operation_71 : decode cX17_operation 71 = .ok (.ireturn, 1) := by decide +kernel
theorem dr_cX17_operation_45 : decode cX17_operation 45 = .ok (.iload_n 2, 1) := by decide +kernel
theorem dr_cX17_operation_46 : decode cX17_operation 46 = .ok (.ldc 3, 2) := by decide +kernel
theorem dr_cX17_operation_48 : decode cX17_operation 48 = .ok (.iload_n 3, 1) := by decide +kernel
theorem dr_cX17_operation_49 : decode cX17_operation 49 = .ok (.invokevirtual 27, 3) := by decide +kernel
theorem wr_10_103 : (Jvm.Cond.methodLink "SpillForgeModel" (27 : Nat) ({ cls := "java/lang/String", name := "charAt", desc := "(I)C" } : Jvm.MethodName)) ∈ gw := gw_10 103 rfl rfl
theorem wr_3_70 : (Jvm.Cond.code ({ cls := "java/lang/String", name := "charAt", desc := "(I)C" } : Jvm.MethodName) prog_34_method_56_code (2 : Nat) (Option.some Jvm.ClassFile.FieldType.char)) ∈ gw := gw_3 70 rfl rfl
theorem wr_3_68 : (Jvm.Cond.instanceMethod ({ cls := "java/lang/String", name := "charAt", desc := "(I)C" } : Jvm.MethodName)) ∈ gw := gw_3 68 rfl rfl
theorem wr_3_69 : (Jvm.Cond.selects "java/lang/String" ({ cls := "java/lang/String", name := "charAt", desc := "(I)C" } : Jvm.MethodName) ({ cls := "java/lang/String", name := "charAt", desc := "(I)C" } : Jvm.MethodName)) ∈ gw := gw_3 69 rfl rfl
theorem dr_cX17_operation_52 : decode cX17_operation 52 = .ok (.bipush 32, 2) := by decide +kernel
theorem dr_cX17_operation_54 : decode cX17_operation 54 = .ok (.if_icmp .ne 7, 3) := by decide +kernel
theorem dr_cX17_operation_61 : decode cX17_operation 61 = .ok (.iconst 0, 1) := by decide +kernel
theorem dr_cX17_operation_62 : decode cX17_operation 62 = .ok (.iadd, 1) := by decide +kernel
theorem dr_cX17_operation_63 : decode cX17_operation 63 = .ok (.istore_n 2, 1) := by decide +kernel
theorem dr_cX17_operation_64 : decode cX17_operation 64 = .ok (.iinc 3 1, 3) := by decide +kernel
theorem dr_cX17_operation_67 : decode cX17_operation 67 = .ok (.goto (-27), 3) := by decide +kernel
theorem dr_cX17_operation_57 : decode cX17_operation 57 = .ok (.iconst 1, 1) := by decide +kernel
theorem dr_cX17_operation_58 : decode cX17_operation 58 = .ok (.goto 4, 3) := by decide +kernel
theorem dr_cX17_operation_34 : decode cX17_operation 34 = .ok (.iconst 0, 1) := by decide +kernel
theorem dr_cX17_operation_35 : decode cX17_operation 35 = .ok (.ireturn, 1) := by decide +kernel
abbrev ky_671542_Reader_breaks : gKey := (cX14_breaks, 3, "SpillForgeModel$Reader", none, [], "breaks", fun _ _ => True)
def pp_671542_Reader_breaks (D : va_G) (I : FieldType → ClassId) (P671522 : List Nat) (F671523 : Nat → va_E) (q671524 : Nat) (q671525 : Nat) (p671526 : Int32) (p671527 : Int32) (p671528 : Int32) (p671529 : Int32) (p671530 : Int32) (p671531 : Int32) (p671532 : Int32) (p671533 : Int32) (qo671534 : Nat) (p671535 : Int32) (p671536 : Int32) (p671537 : Int32) (qo671538 : Nat) (qo671539 : Nat) (p671540 : Int32) (f671541 : Nat → Int32) : Option Value → va_W → Nat → Nat → Prop := fun r w dc ds => ∃ (F671594 : Nat → va_E) (o671591 : Int32) (o671592 : Int32), r = none ∧ w = va_pl P671522 F671594 ∧ rFr [q671524] P671522 F671523 F671594 ∧ F671594 q671524 = .inr (19, [.ref q671525, .int p671528, .int p671529, .int p671530, .int p671531, .int p671532, .int p671533, .ref qo671534, .int o671591, .int o671592, .int p671537, .ref qo671538, .ref qo671539, .int p671540]) ∧ F671594 q671525 = .inl (I .byte, 8192, .inl f671541) ∧ dc ≤ 0 ∧ ds ≤ 0 ∧ gB o671591 0 8192 ∧ gB o671592 0 4 ∧ tr_RReader_breaks p671526 p671527 p671535 p671536 o671591 o671592
set_option maxRecDepth 100000 in
set_option maxHeartbeats 4000000 in
theorem cp_671542_Reader_breaks (l : Launch) (hl0 : l.stackTraces = false) (D : va_G) (I : FieldType → ClassId) (P671522 : List Nat) (F671523 : Nat → va_E) (q671524 : Nat) (q671525 : Nat) (p671526 : Int32) (p671527 : Int32) (p671528 : Int32) (p671529 : Int32) (p671530 : Int32) (p671531 : Int32) (p671532 : Int32) (p671533 : Int32) (qo671534 : Nat) (p671535 : Int32) (p671536 : Int32) (p671537 : Int32) (qo671538 : Nat) (qo671539 : Nat) (p671540 : Int32) (f671541 : Nat → Int32) (hmq671524 : q671524 ∈ P671522) (hmq671525 : q671525 ∈ P671522) (heq671524 : F671523 q671524 = .inr (19, [.ref q671525, .int p671528, .int p671529, .int p671530, .int p671531, .int p671532, .int p671533, .ref qo671534, .int p671535, .int p671536, .int p671537, .ref qo671538, .ref qo671539, .int p671540])) (heq671525 : F671523 q671525 = .inl (I .byte, 8192, .inl f671541)) (bp671526 : gB p671526 0 4) (bp671527 : gB p671527 0 8192) (bp671528 : gB p671528 0 8192) (bp671529 : gB p671529 0 8192) (bp671530 : gB p671530 0 6) (bp671531 : gB p671531 0 8192) (bp671533 : gB p671533 0 6) (bp671535 : gB p671535 (-1) 8192) (bp671536 : gB p671536 0 4) (bp671537 : gB p671537 0 1000000) (bp671540 : gB p671540 0 1000000) (bf671541 : gF f671541 (-128) 127) : CtA (gV D I) l yX14_breaks cX14_breaks 3 none 0 0 0 0 [.ref q671524, .int p671526, .int p671527] (va_pl P671522 F671523) (pp_671542_Reader_breaks D I P671522 F671523 q671524 q671525 p671526 p671527 p671528 p671529 p671530 p671531 p671532 p671533 qo671534 p671535 p671536 p671537 qo671538 qo671539 p671540 f671541) gNA := by
  refine CtA_of hl0 (by decide) (Nat.le_of_ble_eq_true rfl) ?_
  have bp671532 := gB_any p671532
  refine G_aload_n 0 dr_cX14_breaks_0 rfl ?_
  refine Gp_get 8 hmq671524 heq671524 dr_cX14_breaks_1 (gk_X14 D I) (Nat.le_of_ble_eq_true rfl) wr_9_44 rfl ?_
  refine G_if_lt 31 dr_cX14_breaks_4 (by decide +kernel) (fun hc671543 => ?_) (fun hc671543 => ?_)
  · have r671544 : p671535.toInt < 0 := gj_lt hc671543 (show Int32.toInt 0 = 0 by decide)
    have bp671535' : gB p671535 (-1) (-1) := ⟨by omega, by omega⟩
    refine G_aload_n 0 dr_cX14_breaks_31 rfl ?_
    refine G_iload_n 2 dr_cX14_breaks_32 rfl ?_
    refine Gp_put 8 hmq671524 heq671524 dr_cX14_breaks_33 (gk_X14 D I) (Nat.le_of_ble_eq_true rfl) wr_9_44 rfl rfl rfl (Nat.le_of_ble_eq_true rfl) (fun F671545 e671546 n671547 => ?_)
    have he671548 : F671545 q671525 = .inl (I .byte, 8192, .inl f671541) := (n671547 q671525 (rn_ao heq671525 heq671524)).trans heq671525
    have he671549 : F671545 q671524 = .inr (19, [.ref q671525, .int p671528, .int p671529, .int p671530, .int p671531, .int p671532, .int p671533, .ref qo671534, .int p671527, .int p671536, .int p671537, .ref qo671538, .ref qo671539, .int p671540]) := e671546
    have hfr671550 : rFr [q671524] P671522 F671523 F671545 := rFr_put (rFr_rf (W := []) (P := P671522) (F := F671523)) n671547
    refine G_aload_n 0 dr_cX14_breaks_36 rfl ?_
    refine G_iload_n 1 dr_cX14_breaks_37 rfl ?_
    refine Gp_put 9 hmq671524 he671549 dr_cX14_breaks_38 (gk_X14 D I) (Nat.le_of_ble_eq_true rfl) wr_9_46 rfl rfl rfl (Nat.le_of_ble_eq_true rfl) (fun F671551 e671552 n671553 => ?_)
    have he671554 : F671551 q671525 = .inl (I .byte, 8192, .inl f671541) := (n671553 q671525 (rn_ao he671548 he671549)).trans he671548
    have he671555 : F671551 q671524 = .inr (19, [.ref q671525, .int p671528, .int p671529, .int p671530, .int p671531, .int p671532, .int p671533, .ref qo671534, .int p671527, .int p671526, .int p671537, .ref qo671538, .ref qo671539, .int p671540]) := e671552
    have hfr671556 : rFr [q671524] P671522 F671523 F671551 := rFr_put' List.mem_cons_self hfr671550 n671553
    exact G_vretA dr_cX14_breaks_41 rfl (Nat.le_of_ble_eq_true rfl) (Nat.le_of_ble_eq_true rfl) ⟨F671551, p671527, p671526, rfl, rfl, hfr671556, he671555, he671554, (Nat.le_of_ble_eq_true rfl), (Nat.le_of_ble_eq_true rfl), bp671527, bp671526, (fun R c1 c2 c3 c4 c5 => c1 r671544)⟩
  · have r671557 : 0 ≤ p671535.toInt := gj_nlt hc671543 (show Int32.toInt 0 = 0 by decide)
    have bp671535' : gB p671535 0 8192 := ⟨by omega, by omega⟩
    refine G_iload_n 2 dr_cX14_breaks_7 rfl ?_
    refine G_aload_n 0 dr_cX14_breaks_8 rfl ?_
    refine Gp_get 8 hmq671524 heq671524 dr_cX14_breaks_9 (gk_X14 D I) (Nat.le_of_ble_eq_true rfl) wr_9_44 rfl ?_
    refine G_icmp_lt 31 dr_cX14_breaks_12 (by decide +kernel) (fun hc671558 => ?_) (fun hc671558 => ?_)
    · have r671559 : p671527.toInt < p671535.toInt := gC_lt hc671558
      have bp671527' : gB p671527 0 8191 := ⟨by omega, by omega⟩
      have bp671535'' : gB p671535 1 8192 := ⟨by omega, by omega⟩
      refine G_aload_n 0 dr_cX14_breaks_31 rfl ?_
      refine G_iload_n 2 dr_cX14_breaks_32 rfl ?_
      refine Gp_put 8 hmq671524 heq671524 dr_cX14_breaks_33 (gk_X14 D I) (Nat.le_of_ble_eq_true rfl) wr_9_44 rfl rfl rfl (Nat.le_of_ble_eq_true rfl) (fun F671560 e671561 n671562 => ?_)
      have he671563 : F671560 q671525 = .inl (I .byte, 8192, .inl f671541) := (n671562 q671525 (rn_ao heq671525 heq671524)).trans heq671525
      have he671564 : F671560 q671524 = .inr (19, [.ref q671525, .int p671528, .int p671529, .int p671530, .int p671531, .int p671532, .int p671533, .ref qo671534, .int p671527, .int p671536, .int p671537, .ref qo671538, .ref qo671539, .int p671540]) := e671561
      have hfr671565 : rFr [q671524] P671522 F671523 F671560 := rFr_put (rFr_rf (W := []) (P := P671522) (F := F671523)) n671562
      refine G_aload_n 0 dr_cX14_breaks_36 rfl ?_
      refine G_iload_n 1 dr_cX14_breaks_37 rfl ?_
      refine Gp_put 9 hmq671524 he671564 dr_cX14_breaks_38 (gk_X14 D I) (Nat.le_of_ble_eq_true rfl) wr_9_46 rfl rfl rfl (Nat.le_of_ble_eq_true rfl) (fun F671566 e671567 n671568 => ?_)
      have he671569 : F671566 q671525 = .inl (I .byte, 8192, .inl f671541) := (n671568 q671525 (rn_ao he671563 he671564)).trans he671563
      have he671570 : F671566 q671524 = .inr (19, [.ref q671525, .int p671528, .int p671529, .int p671530, .int p671531, .int p671532, .int p671533, .ref qo671534, .int p671527, .int p671526, .int p671537, .ref qo671538, .ref qo671539, .int p671540]) := e671567
      have hfr671571 : rFr [q671524] P671522 F671523 F671566 := rFr_put' List.mem_cons_self hfr671565 n671568
      exact G_vretA dr_cX14_breaks_41 rfl (Nat.le_of_ble_eq_true rfl) (Nat.le_of_ble_eq_true rfl) ⟨F671566, p671527, p671526, rfl, rfl, hfr671571, he671570, he671569, (Nat.le_of_ble_eq_true rfl), (Nat.le_of_ble_eq_true rfl), (gB_w bp671527' (by decide) (by decide)), bp671526, (fun R c1 c2 c3 c4 c5 => c2 r671557 r671559)⟩
    · have r671572 : p671535.toInt ≤ p671527.toInt := gC_nlt hc671558
      refine G_iload_n 2 dr_cX14_breaks_15 rfl ?_
      refine G_aload_n 0 dr_cX14_breaks_16 rfl ?_
      refine Gp_get 8 hmq671524 heq671524 dr_cX14_breaks_17 (gk_X14 D I) (Nat.le_of_ble_eq_true rfl) wr_9_44 rfl ?_
      refine G_icmp_ne 41 dr_cX14_breaks_20 (by decide +kernel) (fun hc671573 => ?_) (fun hc671573 => ?_)
      · have r671574 : p671527.toInt ≠ p671535.toInt := gC_ne hc671573
        exact G_vretA dr_cX14_breaks_41 rfl (Nat.le_of_ble_eq_true rfl) (Nat.le_of_ble_eq_true rfl) ⟨F671523, p671535, p671536, rfl, rfl, (rFr_v (rFr_rf (W := []) (P := P671522) (F := F671523)) (fun b hn => nm_n)), heq671524, heq671525, (Nat.le_of_ble_eq_true rfl), (Nat.le_of_ble_eq_true rfl), bp671535', bp671536, (fun R c1 c2 c3 c4 c5 => c3 r671557 r671572 r671574)⟩
      · have r671575 : p671527.toInt = p671535.toInt := gC_eq hc671573
        refine G_iload_n 1 dr_cX14_breaks_23 rfl ?_
        refine G_aload_n 0 dr_cX14_breaks_24 rfl ?_
        refine Gp_get 9 hmq671524 heq671524 dr_cX14_breaks_25 (gk_X14 D I) (Nat.le_of_ble_eq_true rfl) wr_9_46 rfl ?_
        refine G_icmp_ge 41 dr_cX14_breaks_28 (by decide +kernel) (fun hc671576 => ?_) (fun hc671576 => ?_)
        · have r671577 : p671536.toInt ≤ p671526.toInt := gC_le hc671576
          exact G_vretA dr_cX14_breaks_41 rfl (Nat.le_of_ble_eq_true rfl) (Nat.le_of_ble_eq_true rfl) ⟨F671523, p671535, p671536, rfl, rfl, (rFr_v (rFr_rf (W := []) (P := P671522) (F := F671523)) (fun b hn => nm_n)), heq671524, heq671525, (Nat.le_of_ble_eq_true rfl), (Nat.le_of_ble_eq_true rfl), bp671535', bp671536, (fun R c1 c2 c3 c4 c5 => c4 r671557 r671572 r671575 r671577)⟩
        · have r671578 : p671526.toInt < p671536.toInt := gC_nle hc671576
          have bp671526' : gB p671526 0 3 := ⟨by omega, by omega⟩
          have bp671536' : gB p671536 1 4 := ⟨by omega, by omega⟩
          refine G_aload_n 0 dr_cX14_breaks_31 rfl ?_
          refine G_iload_n 2 dr_cX14_breaks_32 rfl ?_
          refine Gp_put 8 hmq671524 heq671524 dr_cX14_breaks_33 (gk_X14 D I) (Nat.le_of_ble_eq_true rfl) wr_9_44 rfl rfl rfl (Nat.le_of_ble_eq_true rfl) (fun F671579 e671580 n671581 => ?_)
          have he671582 : F671579 q671525 = .inl (I .byte, 8192, .inl f671541) := (n671581 q671525 (rn_ao heq671525 heq671524)).trans heq671525
          have he671583 : F671579 q671524 = .inr (19, [.ref q671525, .int p671528, .int p671529, .int p671530, .int p671531, .int p671532, .int p671533, .ref qo671534, .int p671527, .int p671536, .int p671537, .ref qo671538, .ref qo671539, .int p671540]) := e671580
          have hfr671584 : rFr [q671524] P671522 F671523 F671579 := rFr_put (rFr_rf (W := []) (P := P671522) (F := F671523)) n671581
          refine G_aload_n 0 dr_cX14_breaks_36 rfl ?_
          refine G_iload_n 1 dr_cX14_breaks_37 rfl ?_
          refine Gp_put 9 hmq671524 he671583 dr_cX14_breaks_38 (gk_X14 D I) (Nat.le_of_ble_eq_true rfl) wr_9_46 rfl rfl rfl (Nat.le_of_ble_eq_true rfl) (fun F671585 e671586 n671587 => ?_)
          have he671588 : F671585 q671525 = .inl (I .byte, 8192, .inl f671541) := (n671587 q671525 (rn_ao he671582 he671583)).trans he671582
          have he671589 : F671585 q671524 = .inr (19, [.ref q671525, .int p671528, .int p671529, .int p671530, .int p671531, .int p671532, .int p671533, .ref qo671534, .int p671527, .int p671526, .int p671537, .ref qo671538, .ref qo671539, .int p671540]) := e671586
          have hfr671590 : rFr [q671524] P671522 F671523 F671585 := rFr_put' List.mem_cons_self hfr671584 n671587
          exact G_vretA dr_cX14_breaks_41 rfl (Nat.le_of_ble_eq_true rfl) (Nat.le_of_ble_eq_true rfl) ⟨F671585, p671527, p671526, rfl, rfl, hfr671590, he671589, he671588, (Nat.le_of_ble_eq_true rfl), (Nat.le_of_ble_eq_true rfl), bp671527, (gB_w bp671526' (by decide) (by decide)), (fun R c1 c2 c3 c4 c5 => c5 r671557 r671572 r671575 r671578)⟩
/- tr_RReader_operand: a.0...at, a.0...kind, a.0...place, a.0...value, a.1...a, a.1...b, a.1...regA, a.1...regB -/
def tr_RReader_operand (a2 : Int32) (a0_n : Int32) (a0_at : Int32) (a0_kind : Int32) (a0_value : Int32) (a1_a : Int32) (a1_b : Int32) (a1_regA : Int32) (a1_regB : Int32) (a0_t_v : Nat → Int32) (o1 : Int32) (o2 : Int32) (o3 : Int32) (o4 : Int32) (o5 : Int32) (o6 : Int32) (o7 : Int32) (o8 : Int32) (o9 : gTx) : Prop := ∀ R : (Int32) → (Int32) → (Int32) → (Int32) → (Int32) → (Int32) → (Int32) → (Int32) → (gTx) → Prop,
  (∀ (x1 : gTx) (x2 : Int32) (x3 : Int32) (x4 : Int32) (x5 : Int32), a0_kind.toInt ≠ 2 → a0_kind.toInt = 4 → a2.toInt = 0 → gB x2 0 8192 → gB x3 0 6 → gB x4 0 8192 → tr_RReader_next a0_n a0_at a0_kind a0_value a0_t_v x2 x3 x4 x5 x1 → R x2 x3 x4 x5 a0_value a1_b (0 : Int32) a1_regB x1) →
  (∀ (x1 : gTx) (x2 : Int32) (x3 : Int32) (x4 : Int32) (x5 : Int32), a0_kind.toInt ≠ 2 → a0_kind.toInt = 4 → a2.toInt ≠ 0 → gB x2 0 8192 → gB x3 0 6 → gB x4 0 8192 → tr_RReader_next a0_n a0_at a0_kind a0_value a0_t_v x2 x3 x4 x5 x1 → R x2 x3 x4 x5 a1_a a0_value a1_regA (0 : Int32) x1) →
  (∀ (x1 : gTx) (x2 : Int32) (x3 : Int32) (x4 : Int32) (x5 : Int32), a0_kind.toInt = 2 → a2.toInt = 0 → gB x2 0 8192 → gB x3 0 6 → gB x4 0 8192 → tr_RReader_next a0_n a0_at a0_kind a0_value a0_t_v x2 x3 x4 x5 x1 → R x2 x3 x4 x5 a0_value a1_b (1 : Int32) a1_regB x1) →
  (∀ (x1 : gTx) (x2 : Int32) (x3 : Int32) (x4 : Int32) (x5 : Int32), a0_kind.toInt = 2 → a2.toInt ≠ 0 → gB x2 0 8192 → gB x3 0 6 → gB x4 0 8192 → tr_RReader_next a0_n a0_at a0_kind a0_value a0_t_v x2 x3 x4 x5 x1 → R x2 x3 x4 x5 a1_a a0_value a1_regA (1 : Int32) x1) →
  R o1 o2 o3 o4 o5 o6 o7 o8 o9
/- tx_RReader_operand: throws -/
def tx_RReader_operand (a0_kind : Int32) : Prop := ∀ R : Prop,
  (a0_kind.toInt ≠ 2 → a0_kind.toInt ≠ 4 → R) →
  R
abbrev ky_671631_Reader_operand : gKey := (cX14_operand, 4, "SpillForgeModel$Reader", none, [], "operand", fun _ _ => True)
def pp_671631_Reader_operand (D : va_G) (I : FieldType → ClassId) (P671595 : List Nat) (F671596 : Nat → va_E) (q671597 : Nat) (q671598 : Nat) (q671599 : Nat) (p671600 : Int32) (p671601 : Int32) (p671602 : Int32) (p671603 : Int32) (p671604 : Int32) (p671605 : Int32) (p671606 : Int32) (qo671607 : Nat) (p671608 : Int32) (p671609 : Int32) (p671610 : Int32) (qo671611 : Nat) (qo671612 : Nat) (p671613 : Int32) (p671614 : Int32) (p671615 : Int32) (p671616 : Int32) (p671617 : Int32) (p671618 : Int32) (p671619 : Int32) (p671620 : Int32) (f671621 : Nat → Int32) (xt671622 : gTx) : Option Value → va_W → Nat → Nat → Prop := fun r w dc ds => ∃ (P671856 : List Nat) (F671857 : Nat → va_E) (o671847 : Int32) (o671848 : Int32) (o671849 : Int32) (o671850 : Int32) (q671851 : Nat) (o671852 : Int32) (o671853 : Int32) (o671854 : Int32) (o671855 : Int32) (xt671858 : gTx), r = none ∧ w = va_pl P671856 F671857 ∧ rSub P671595 P671856 ∧ rFr [q671598, q671597] P671595 F671596 F671857 ∧ F671857 q671598 = .inr (20, [.int p671614, .int p671615, .int o671852, .int o671853, .int p671618, .int o671854, .int o671855]) ∧ F671857 q671597 = .inr (19, [.ref q671599, .int p671601, .int o671847, .int o671848, .int o671849, .int o671850, .int p671603, .ref q671851, .int p671608, .int p671609, .int p671610, .ref qo671611, .ref qo671612, .int p671613]) ∧ F671857 q671599 = .inl (I .byte, 8192, .inl f671621) ∧ dc ≤ (16 * (o671847.toInt - p671602.toInt)).toNat ∧ ds ≤ (160 * (o671847.toInt - p671602.toInt)).toNat ∧ gB o671847 0 8192 ∧ gB o671848 0 6 ∧ gB o671849 0 8192 ∧ gB o671854 0 1 ∧ gB o671855 0 1 ∧ p671602.toInt ≤ o671847.toInt ∧ prP o671848 p671602 o671847 ∧ o671847.toInt ≤ p671601.toInt ∧ tP I P671856 F671857 o671848 q671851 qo671612 qo671611 xt671858 ∧ vP o671848 o671850 ∧ rwP o671854 o671852 ∧ rwP o671855 o671853 ∧ nzK p671603 ∧ tr_RReader_operand p671600 p671601 p671602 p671603 p671605 p671616 p671617 p671619 p671620 f671621 o671847 o671848 o671849 o671850 o671852 o671853 o671854 o671855 xt671858
def xp_671631_Reader_operand (D : va_G) (I : FieldType → ClassId) (P671595 : List Nat) (F671596 : Nat → va_E) (q671597 : Nat) (q671598 : Nat) (q671599 : Nat) (p671600 : Int32) (p671601 : Int32) (p671602 : Int32) (p671603 : Int32) (p671604 : Int32) (p671605 : Int32) (p671606 : Int32) (qo671607 : Nat) (p671608 : Int32) (p671609 : Int32) (p671610 : Int32) (qo671611 : Nat) (qo671612 : Nat) (p671613 : Int32) (p671614 : Int32) (p671615 : Int32) (p671616 : Int32) (p671617 : Int32) (p671618 : Int32) (p671619 : Int32) (p671620 : Int32) (f671621 : Nat → Int32) (xt671622 : gTx) : String → Nat → va_W → Nat → Nat → Prop := fun E q w dc ds => ∃ (P671860 : List Nat) (F671859 : Nat → va_E), E = "SpillForgeModel$Wrong" ∧ w = va_pl P671860 F671859 ∧ rSub P671595 P671860 ∧ rFr [] P671595 F671596 F671859 ∧ q ∈ P671860 ∧ q ∉ P671595 ∧ wrF F671859 q ∧ dc ≤ (16 * (p671601.toInt - p671602.toInt)).toNat + 1 ∧ ds ≤ (160 * (p671601.toInt - p671602.toInt)).toNat + 7 ∧ rkR (F671859 q671598) ∧ tx_RReader_operand p671603
set_option maxRecDepth 100000 in
set_option maxHeartbeats 4000000 in
theorem cp_671631_Reader_operand (l : Launch) (hl0 : l.stackTraces = false) (D : va_G) (I : FieldType → ClassId) (P671595 : List Nat) (F671596 : Nat → va_E) (q671597 : Nat) (q671598 : Nat) (q671599 : Nat) (p671600 : Int32) (p671601 : Int32) (p671602 : Int32) (p671603 : Int32) (p671604 : Int32) (p671605 : Int32) (p671606 : Int32) (qo671607 : Nat) (p671608 : Int32) (p671609 : Int32) (p671610 : Int32) (qo671611 : Nat) (qo671612 : Nat) (p671613 : Int32) (p671614 : Int32) (p671615 : Int32) (p671616 : Int32) (p671617 : Int32) (p671618 : Int32) (p671619 : Int32) (p671620 : Int32) (f671621 : Nat → Int32) (xt671622 : gTx) (hmq671597 : q671597 ∈ P671595) (hmq671598 : q671598 ∈ P671595) (hmq671599 : q671599 ∈ P671595) (heq671597 : F671596 q671597 = .inr (19, [.ref q671599, .int p671601, .int p671602, .int p671603, .int p671604, .int p671605, .int p671606, .ref qo671607, .int p671608, .int p671609, .int p671610, .ref qo671611, .ref qo671612, .int p671613])) (heq671598 : F671596 q671598 = .inr (20, [.int p671614, .int p671615, .int p671616, .int p671617, .int p671618, .int p671619, .int p671620])) (heq671599 : F671596 q671599 = .inl (I .byte, 8192, .inl f671621)) (bp671600 : gB p671600 0 1) (bp671601 : gB p671601 0 8192) (bp671602 : gB p671602 0 8192) (bp671603 : gB p671603 0 6) (bp671604 : gB p671604 0 8192) (bp671606 : gB p671606 0 6) (bp671608 : gB p671608 (-1) 8192) (bp671609 : gB p671609 0 4) (bp671610 : gB p671610 0 1000000) (bp671613 : gB p671613 0 1000000) (bp671614 : gB p671614 0 32) (bp671615 : gB p671615 0 1999) (bp671618 : gB p671618 0 1999) (bp671619 : gB p671619 0 1) (bp671620 : gB p671620 0 1) (bf671621 : gF f671621 (-128) 127) (x671623 : p671602.toInt ≤ p671601.toInt) (x671624 : qo671612 ∈ P671595) (x671625 : qo671611 ∈ P671595) (x671626 : tP I P671595 F671596 p671603 qo671607 qo671612 qo671611 xt671622) (x671627 : vP p671603 p671605) (x671628 : rwP p671619 p671616) (x671629 : rwP p671620 p671617) (x671630 : opP p671614) : CtA (gV D I) l yX14_operand cX14_operand 4 none 8 177 ((16 * (p671601.toInt - p671602.toInt)).toNat + 1) ((160 * (p671601.toInt - p671602.toInt)).toNat + 7) [.ref q671597, .ref q671598, .int p671600] (va_pl P671595 F671596) (pp_671631_Reader_operand D I P671595 F671596 q671597 q671598 q671599 p671600 p671601 p671602 p671603 p671604 p671605 p671606 qo671607 p671608 p671609 p671610 qo671611 qo671612 p671613 p671614 p671615 p671616 p671617 p671618 p671619 p671620 f671621 xt671622) (xp_671631_Reader_operand D I P671595 F671596 q671597 q671598 q671599 p671600 p671601 p671602 p671603 p671604 p671605 p671606 qo671607 p671608 p671609 p671610 qo671611 qo671612 p671613 p671614 p671615 p671616 p671617 p671618 p671619 p671620 f671621 xt671622) := by
  refine CtA_of hl0 (by decide) (Nat.le_of_ble_eq_true rfl) ?_
  have bp671605 := gB_any p671605
  have bp671616 := gB_any p671616
  have bp671617 := gB_any p671617
  refine G_aload_n 0 dr_cX14_operand_0 rfl ?_
  refine Gp_get 3 hmq671597 heq671597 dr_cX14_operand_1 (gk_X14 D I) (Nat.le_of_ble_eq_true rfl) wr_9_39 rfl ?_
  refine G_iconst 2 dr_cX14_operand_4 (by decide +kernel) ?_
  refine G_icmp_ne 12 dr_cX14_operand_5 (by decide +kernel) (fun hc671632 => ?_) (fun hc671632 => ?_)
  · have r671633 : p671603.toInt ≠ 2 := gj_neq hc671632 (show Int32.toInt 2 = 2 by decide)
    refine G_iconst 0 dr_cX14_operand_12 (by decide +kernel) ?_
    refine G_istore_n (L' := [(3, .int 0), (0, .ref q671597), (1, .ref q671598), (2, .int p671600)]) dr_cX14_operand_13 (Nat.le_of_ble_eq_true rfl) rfl ?_
    refine G_iload_n 0 dr_cX14_operand_14 rfl ?_
    refine G_if_ne 31 dr_cX14_operand_15 (by decide +kernel) (fun hc => absurd hc (by decide)) (fun _ => ?_)
    refine G_aload_n 1 dr_cX14_operand_18 rfl ?_
    refine Gp_get 3 hmq671597 heq671597 dr_cX14_operand_19 (gk_X14 D I) (Nat.le_of_ble_eq_true rfl) wr_9_39 rfl ?_
    refine G_iconst 4 dr_cX14_operand_22 (by decide +kernel) ?_
    refine G_icmp_eq 31 dr_cX14_operand_23 (by decide +kernel) (fun hc671634 => ?_) (fun hc671634 => ?_)
    · have r671635 : p671603.toInt = 4 := gj_eq hc671634 (show Int32.toInt 4 = 4 by decide)
      have bp671603' : gB p671603 4 4 := ⟨by omega, by omega⟩
      refine G_iload_n 3 dr_cX14_operand_31 rfl ?_
      refine G_if_eq 51 dr_cX14_operand_32 (by decide +kernel) (fun hc671636 => ?_) (fun hc671636 => ?_)
      · have r671637 : p671600.toInt = 0 := gj_eq hc671636 (show Int32.toInt 0 = 0 by decide)
        have bp671600' : gB p671600 0 0 := ⟨by omega, by omega⟩
        refine G_aload_n 2 dr_cX14_operand_51 rfl ?_
        refine G_aload_n 1 dr_cX14_operand_52 rfl ?_
        refine Gp_get 5 hmq671597 heq671597 dr_cX14_operand_53 (gk_X14 D I) (Nat.le_of_ble_eq_true rfl) wr_9_41 rfl ?_
        refine Gp_put 2 hmq671598 heq671598 dr_cX14_operand_56 (gk_X15 D I) (Nat.le_of_ble_eq_true rfl) wr_9_187 rfl rfl rfl (Nat.le_of_ble_eq_true rfl) (fun F671638 e671639 n671640 => ?_)
        have he671641 : F671638 q671597 = .inr (19, [.ref q671599, .int p671601, .int p671602, .int p671603, .int p671604, .int p671605, .int p671606, .ref qo671607, .int p671608, .int p671609, .int p671610, .ref qo671611, .ref qo671612, .int p671613]) := (n671640 q671597 (rn_oo heq671597 heq671598 (by decide))).trans heq671597
        have he671642 : F671638 q671599 = .inl (I .byte, 8192, .inl f671621) := (n671640 q671599 (rn_ao heq671599 heq671598)).trans heq671599
        have he671643 : F671638 q671598 = .inr (20, [.int p671614, .int p671615, .int p671605, .int p671617, .int p671618, .int p671619, .int p671620]) := e671639
        have hfr671644 : rFr [q671598] P671595 F671596 F671638 := rFr_put (rFr_rf (W := []) (P := P671595) (F := F671596)) n671640
        have tp671645 : tP I P671595 F671638 p671603 qo671607 qo671612 qo671611 xt671622 := tP_put x671626 heq671598 (by decide) n671640
        refine G_aload_n 2 dr_cX14_operand_59 rfl ?_
        refine G_iload_n 0 dr_cX14_operand_60 rfl ?_
        refine Gp_put 5 hmq671598 he671643 dr_cX14_operand_61 (gk_X15 D I) (Nat.le_of_ble_eq_true rfl) wr_9_198 rfl rfl rfl (Nat.le_of_ble_eq_true rfl) (fun F671646 e671647 n671648 => ?_)
        have he671649 : F671646 q671597 = .inr (19, [.ref q671599, .int p671601, .int p671602, .int p671603, .int p671604, .int p671605, .int p671606, .ref qo671607, .int p671608, .int p671609, .int p671610, .ref qo671611, .ref qo671612, .int p671613]) := (n671648 q671597 (rn_oo he671641 he671643 (by decide))).trans he671641
        have he671650 : F671646 q671599 = .inl (I .byte, 8192, .inl f671621) := (n671648 q671599 (rn_ao he671642 he671643)).trans he671642
        have he671651 : F671646 q671598 = .inr (20, [.int p671614, .int p671615, .int p671605, .int p671617, .int p671618, .int 0, .int p671620]) := e671647
        have hfr671652 : rFr [q671598] P671595 F671596 F671646 := rFr_put' List.mem_cons_self hfr671644 n671648
        have tp671653 : tP I P671595 F671646 p671603 qo671607 qo671612 qo671611 xt671622 := tP_put tp671645 he671643 (by decide) n671648
        refine G_aload_n 1 dr_cX14_operand_64 rfl ?_
        refine Gw_callV (As := []) (gV_ok D I) (cp_669296_Reader_next l hl0 D I P671595 F671646 q671597 q671599 p671601 p671602 p671603 p671604 p671605 p671606 qo671607 p671608 p671609 p671610 qo671611 qo671612 p671613 f671621 hmq671597 hmq671599 he671649 he671650 bp671601 bp671602 (gB_w bp671603' (by decide) (by decide)) bp671604 bp671606 bp671608 bp671609 bp671610 bp671613 bf671621 (by have qa0 : Int32.toInt 0 = 0 := (by decide); omega) x671624 x671625) dr_cX14_operand_65 ⟨wr_7_215, wr_1_32, wr_7_218, by decide, rfl, (Nat.le_of_ble_eq_true rfl), (Nat.le_of_ble_eq_true rfl)⟩ wr_7_217 wr_p_75 hmq671597 he671649 rfl (show 0 + ((16 * (p671601.toInt - p671602.toInt)).toNat) ≤ ((16 * (p671601.toInt - p671602.toInt)).toNat + 1) by first | omega | decide) (show 0 + ((160 * (p671601.toInt - p671602.toInt)).toNat) ≤ ((160 * (p671601.toInt - p671602.toInt)).toNat + 7) by first | omega | decide) (Nat.le_of_ble_eq_true rfl) (fun r671657 w671658 dc671654 ds671655 hp671656 => ?_) (fun _ _ _ _ _ z => z.elim)
        obtain ⟨P671671, F671672, o671659, o671660, o671661, o671662, q671663, xt671670, rfl, rfl, hsb671673, hfr671674, he671675, he671676, hdc, hds, bo671659, bo671660, bo671661, x671664, x671665, x671666, x671667, x671668, ht671669⟩ := hp671656
        have hm671677 : q671597 ∈ P671671 := hsb671673 q671597 hmq671597
        have hm671678 : q671598 ∈ P671671 := hsb671673 q671598 hmq671598
        have hm671679 : q671599 ∈ P671671 := hsb671673 q671599 hmq671599
        have hsb671680 : rSub P671595 P671671 := rSub_tr (rSub_rf (P := P671595)) hsb671673
        have he671681 : F671672 q671598 = .inr (20, [.int p671614, .int p671615, .int p671605, .int p671617, .int p671618, .int 0, .int p671620]) := (hfr671674 q671598 hmq671598 (nm_c (rn_oo he671651 he671649 (by decide)) nm_n)).trans he671651
        have hfr671682 : rFr [q671598, q671597] P671595 F671596 F671672 := rFr_call (rSub_rf (P := P671595)) hfr671652 hfr671674 (fun b hb hn => ⟨(nm_c (fun e => hn (e ▸ List.mem_cons_self)) nm_n), (nm_c (fun e => hn (e ▸ (List.mem_cons_of_mem _ List.mem_cons_self))) nm_n)⟩)
        have bo671662 := gB_any o671662
        change G _ _ _ _ _ _ _ _ _ _ _
        refine G_widen (cs' := (16 * (o671659.toInt - p671602.toInt)).toNat) (sl' := (160 * (o671659.toInt - p671602.toInt)).toNat) (by omega) (by omega) ?_
        exact G_vretA dr_cX14_operand_68 rfl (show (16 * (o671659.toInt - p671602.toInt)).toNat ≤ ((16 * (p671601.toInt - p671602.toInt)).toNat + 1) by omega) (show (160 * (o671659.toInt - p671602.toInt)).toNat ≤ ((160 * (p671601.toInt - p671602.toInt)).toNat + 7) by omega) ⟨P671671, F671672, o671659, o671660, o671661, o671662, q671663, p671605, p671617, 0, p671620, xt671670, rfl, rfl, hsb671680, hfr671682, he671681, he671675, he671676, (by omega), (by omega), bo671659, bo671660, bo671661, (gB_w (gBl (show Int32.toInt 0 = 0 by decide)) (by decide) (by decide)), bp671620, (by have qa0 : Int32.toInt 0 = 0 := (by decide); omega), x671665, (by have qa0 : Int32.toInt 0 = 0 := (by decide); omega), x671667, x671668, rwP_0, x671629, (show nzK p671603 by unfold nzK; omega), (fun R c1 c2 c3 c4 => c1 xt671670 o671659 o671660 o671661 o671662 r671633 r671635 r671637 bo671659 bo671660 bo671661 ht671669)⟩
      · have r671683 : p671600.toInt ≠ 0 := gj_neq hc671636 (show Int32.toInt 0 = 0 by decide)
        have bp671600' : gB p671600 1 1 := ⟨by omega, by omega⟩
        refine G_aload_n 2 dr_cX14_operand_35 rfl ?_
        refine G_aload_n 1 dr_cX14_operand_36 rfl ?_
        refine Gp_get 5 hmq671597 heq671597 dr_cX14_operand_37 (gk_X14 D I) (Nat.le_of_ble_eq_true rfl) wr_9_41 rfl ?_
        refine Gp_put 3 hmq671598 heq671598 dr_cX14_operand_40 (gk_X15 D I) (Nat.le_of_ble_eq_true rfl) wr_9_191 rfl rfl rfl (Nat.le_of_ble_eq_true rfl) (fun F671684 e671685 n671686 => ?_)
        have he671687 : F671684 q671597 = .inr (19, [.ref q671599, .int p671601, .int p671602, .int p671603, .int p671604, .int p671605, .int p671606, .ref qo671607, .int p671608, .int p671609, .int p671610, .ref qo671611, .ref qo671612, .int p671613]) := (n671686 q671597 (rn_oo heq671597 heq671598 (by decide))).trans heq671597
        have he671688 : F671684 q671599 = .inl (I .byte, 8192, .inl f671621) := (n671686 q671599 (rn_ao heq671599 heq671598)).trans heq671599
        have he671689 : F671684 q671598 = .inr (20, [.int p671614, .int p671615, .int p671616, .int p671605, .int p671618, .int p671619, .int p671620]) := e671685
        have hfr671690 : rFr [q671598] P671595 F671596 F671684 := rFr_put (rFr_rf (W := []) (P := P671595) (F := F671596)) n671686
        have tp671691 : tP I P671595 F671684 p671603 qo671607 qo671612 qo671611 xt671622 := tP_put x671626 heq671598 (by decide) n671686
        refine G_aload_n 2 dr_cX14_operand_43 rfl ?_
        refine G_iload_n 0 dr_cX14_operand_44 rfl ?_
        refine Gp_put 6 hmq671598 he671689 dr_cX14_operand_45 (gk_X15 D I) (Nat.le_of_ble_eq_true rfl) wr_9_201 rfl rfl rfl (Nat.le_of_ble_eq_true rfl) (fun F671692 e671693 n671694 => ?_)
        have he671695 : F671692 q671597 = .inr (19, [.ref q671599, .int p671601, .int p671602, .int p671603, .int p671604, .int p671605, .int p671606, .ref qo671607, .int p671608, .int p671609, .int p671610, .ref qo671611, .ref qo671612, .int p671613]) := (n671694 q671597 (rn_oo he671687 he671689 (by decide))).trans he671687
        have he671696 : F671692 q671599 = .inl (I .byte, 8192, .inl f671621) := (n671694 q671599 (rn_ao he671688 he671689)).trans he671688
        have he671697 : F671692 q671598 = .inr (20, [.int p671614, .int p671615, .int p671616, .int p671605, .int p671618, .int p671619, .int 0]) := e671693
        have hfr671698 : rFr [q671598] P671595 F671596 F671692 := rFr_put' List.mem_cons_self hfr671690 n671694
        have tp671699 : tP I P671595 F671692 p671603 qo671607 qo671612 qo671611 xt671622 := tP_put tp671691 he671689 (by decide) n671694
        refine G_goto 64 dr_cX14_operand_48 (by decide +kernel) ?_
        refine G_aload_n 1 dr_cX14_operand_64 rfl ?_
        refine Gw_callV (As := []) (gV_ok D I) (cp_669296_Reader_next l hl0 D I P671595 F671692 q671597 q671599 p671601 p671602 p671603 p671604 p671605 p671606 qo671607 p671608 p671609 p671610 qo671611 qo671612 p671613 f671621 hmq671597 hmq671599 he671695 he671696 bp671601 bp671602 (gB_w bp671603' (by decide) (by decide)) bp671604 bp671606 bp671608 bp671609 bp671610 bp671613 bf671621 (by have qa0 : Int32.toInt 0 = 0 := (by decide); omega) x671624 x671625) dr_cX14_operand_65 ⟨wr_7_215, wr_1_32, wr_7_218, by decide, rfl, (Nat.le_of_ble_eq_true rfl), (Nat.le_of_ble_eq_true rfl)⟩ wr_7_217 wr_p_75 hmq671597 he671695 rfl (show 0 + ((16 * (p671601.toInt - p671602.toInt)).toNat) ≤ ((16 * (p671601.toInt - p671602.toInt)).toNat + 1) by first | omega | decide) (show 0 + ((160 * (p671601.toInt - p671602.toInt)).toNat) ≤ ((160 * (p671601.toInt - p671602.toInt)).toNat + 7) by first | omega | decide) (Nat.le_of_ble_eq_true rfl) (fun r671703 w671704 dc671700 ds671701 hp671702 => ?_) (fun _ _ _ _ _ z => z.elim)
        obtain ⟨P671717, F671718, o671705, o671706, o671707, o671708, q671709, xt671716, rfl, rfl, hsb671719, hfr671720, he671721, he671722, hdc, hds, bo671705, bo671706, bo671707, x671710, x671711, x671712, x671713, x671714, ht671715⟩ := hp671702
        have hm671723 : q671597 ∈ P671717 := hsb671719 q671597 hmq671597
        have hm671724 : q671598 ∈ P671717 := hsb671719 q671598 hmq671598
        have hm671725 : q671599 ∈ P671717 := hsb671719 q671599 hmq671599
        have hsb671726 : rSub P671595 P671717 := rSub_tr (rSub_rf (P := P671595)) hsb671719
        have he671727 : F671718 q671598 = .inr (20, [.int p671614, .int p671615, .int p671616, .int p671605, .int p671618, .int p671619, .int 0]) := (hfr671720 q671598 hmq671598 (nm_c (rn_oo he671697 he671695 (by decide)) nm_n)).trans he671697
        have hfr671728 : rFr [q671598, q671597] P671595 F671596 F671718 := rFr_call (rSub_rf (P := P671595)) hfr671698 hfr671720 (fun b hb hn => ⟨(nm_c (fun e => hn (e ▸ List.mem_cons_self)) nm_n), (nm_c (fun e => hn (e ▸ (List.mem_cons_of_mem _ List.mem_cons_self))) nm_n)⟩)
        have bo671708 := gB_any o671708
        change G _ _ _ _ _ _ _ _ _ _ _
        refine G_widen (cs' := (16 * (o671705.toInt - p671602.toInt)).toNat) (sl' := (160 * (o671705.toInt - p671602.toInt)).toNat) (by omega) (by omega) ?_
        exact G_vretA dr_cX14_operand_68 rfl (show (16 * (o671705.toInt - p671602.toInt)).toNat ≤ ((16 * (p671601.toInt - p671602.toInt)).toNat + 1) by omega) (show (160 * (o671705.toInt - p671602.toInt)).toNat ≤ ((160 * (p671601.toInt - p671602.toInt)).toNat + 7) by omega) ⟨P671717, F671718, o671705, o671706, o671707, o671708, q671709, p671616, p671605, p671619, 0, xt671716, rfl, rfl, hsb671726, hfr671728, he671727, he671721, he671722, (by omega), (by omega), bo671705, bo671706, bo671707, bp671619, (gB_w (gBl (show Int32.toInt 0 = 0 by decide)) (by decide) (by decide)), (by have qa0 : Int32.toInt 0 = 0 := (by decide); omega), x671711, (by have qa0 : Int32.toInt 0 = 0 := (by decide); omega), x671713, x671714, x671628, rwP_0, (show nzK p671603 by unfold nzK; omega), (fun R c1 c2 c3 c4 => c2 xt671716 o671705 o671706 o671707 o671708 r671633 r671635 r671683 bo671705 bo671706 bo671707 ht671715)⟩
    · have r671729 : p671603.toInt ≠ 4 := gj_neq hc671634 (show Int32.toInt 4 = 4 by decide)
      refine G_aload_n 1 dr_cX14_operand_26 rfl ?_
      refine Gw_callV (As := []) (gV_ok D I) (cp_671036_Reader_no l hl0 D I P671595 F671596 q671597 q671599 p671601 p671602 p671603 p671604 p671605 p671606 qo671607 p671608 p671609 p671610 qo671611 qo671612 p671613 f671621 hmq671597 hmq671599 heq671597 heq671599 bp671601 bp671602 bp671603 bp671604 bp671606 bp671608 bp671609 bp671610 bp671613 bf671621) dr_cX14_operand_27 ⟨wr_9_97, wr_1_32, wr_9_100, by decide, rfl, (Nat.le_of_ble_eq_true rfl), (Nat.le_of_ble_eq_true rfl)⟩ wr_9_99 wr_p_81 hmq671597 heq671597 rfl (show 0 + 1 ≤ ((16 * (p671601.toInt - p671602.toInt)).toNat + 1) by first | omega | decide) (show 0 + 7 ≤ ((160 * (p671601.toInt - p671602.toInt)).toNat + 7) by first | omega | decide) (Nat.le_of_ble_eq_true rfl) (fun r671733 w671734 dc671730 ds671731 hp671732 => ?_) (fun _ _ _ _ _ z => z.elim)
      obtain ⟨P671736, F671737, q671735, rfl, rfl, hsb671738, hfr671739, he671740, he671741, he671742, hm671743, hq671744, hdc, hds⟩ := hp671732
      have hm671745 : q671597 ∈ P671736 := hsb671738 q671597 hmq671597
      have hm671746 : q671598 ∈ P671736 := hsb671738 q671598 hmq671598
      have hm671747 : q671599 ∈ P671736 := hsb671738 q671599 hmq671599
      have hq671748 : q671735 ∉ P671595 := fun z => hq671744 ((rSub_rf (P := P671595)) q671735 z)
      have hsb671749 : rSub P671595 P671736 := rSub_tr (rSub_rf (P := P671595)) hsb671738
      have he671750 : F671737 q671598 = .inr (20, [.int p671614, .int p671615, .int p671616, .int p671617, .int p671618, .int p671619, .int p671620]) := (hfr671739 q671598 hmq671598 nm_n).trans heq671598
      have hfr671751 : rFr [] P671595 F671596 F671737 := rFr_call (rSub_rf (P := P671595)) (rFr_rf (W := []) (P := P671595) (F := F671596)) hfr671739 (fun b hb hn => ⟨nm_n, nm_n⟩)
      have tp671752 : tP I P671736 F671737 p671603 qo671607 qo671612 qo671611 xt671622 := tP_new x671626 hsb671738 (fun b hb => hfr671739 b hb (fun z => by cases z)) (Or.inl rfl) (Or.inl rfl)
      change G _ _ _ _ _ _ _ (.ref q671735 :: _) _ _ _
      refine G_widen (cs' := 1) (sl' := 7) (by omega) (by omega) ?_
      exact Gp_athrow hm671743 he671742 rfl dr_cX14_operand_30 (GT_outA rfl (show 1 ≤ ((16 * (p671601.toInt - p671602.toInt)).toNat + 1) by omega) (show 7 ≤ ((160 * (p671601.toInt - p671602.toInt)).toNat + 7) by omega) ⟨P671736, F671737, rfl, rfl, hsb671749, hfr671751, hm671743, hq671748, ⟨_, _, _, _, _, _, _, he671742, by omega⟩, (by omega), (by omega), ⟨p671614, p671615, p671616, p671617, p671618, p671619, p671620, he671750, bp671614, bp671615, bp671618, bp671619, bp671620, x671630, x671628, x671629⟩, (fun R c1 => c1 r671633 r671729)⟩)
  · have r671753 : p671603.toInt = 2 := gj_eq hc671632 (show Int32.toInt 2 = 2 by decide)
    have bp671603' : gB p671603 2 2 := ⟨by omega, by omega⟩
    refine G_iconst 1 dr_cX14_operand_8 (by decide +kernel) ?_
    refine G_goto 13 dr_cX14_operand_9 (by decide +kernel) ?_
    refine G_istore_n (L' := [(3, .int 1), (0, .ref q671597), (1, .ref q671598), (2, .int p671600)]) dr_cX14_operand_13 (Nat.le_of_ble_eq_true rfl) rfl ?_
    refine G_iload_n 0 dr_cX14_operand_14 rfl ?_
    refine G_if_ne 31 dr_cX14_operand_15 (by decide +kernel) (fun _ => ?_) (fun hc => absurd hc (by decide))
    refine G_iload_n 3 dr_cX14_operand_31 rfl ?_
    refine G_if_eq 51 dr_cX14_operand_32 (by decide +kernel) (fun hc671754 => ?_) (fun hc671754 => ?_)
    · have r671755 : p671600.toInt = 0 := gj_eq hc671754 (show Int32.toInt 0 = 0 by decide)
      have bp671600' : gB p671600 0 0 := ⟨by omega, by omega⟩
      refine G_aload_n 2 dr_cX14_operand_51 rfl ?_
      refine G_aload_n 1 dr_cX14_operand_52 rfl ?_
      refine Gp_get 5 hmq671597 heq671597 dr_cX14_operand_53 (gk_X14 D I) (Nat.le_of_ble_eq_true rfl) wr_9_41 rfl ?_
      refine Gp_put 2 hmq671598 heq671598 dr_cX14_operand_56 (gk_X15 D I) (Nat.le_of_ble_eq_true rfl) wr_9_187 rfl rfl rfl (Nat.le_of_ble_eq_true rfl) (fun F671756 e671757 n671758 => ?_)
      have he671759 : F671756 q671597 = .inr (19, [.ref q671599, .int p671601, .int p671602, .int p671603, .int p671604, .int p671605, .int p671606, .ref qo671607, .int p671608, .int p671609, .int p671610, .ref qo671611, .ref qo671612, .int p671613]) := (n671758 q671597 (rn_oo heq671597 heq671598 (by decide))).trans heq671597
      have he671760 : F671756 q671599 = .inl (I .byte, 8192, .inl f671621) := (n671758 q671599 (rn_ao heq671599 heq671598)).trans heq671599
      have he671761 : F671756 q671598 = .inr (20, [.int p671614, .int p671615, .int p671605, .int p671617, .int p671618, .int p671619, .int p671620]) := e671757
      have hfr671762 : rFr [q671598] P671595 F671596 F671756 := rFr_put (rFr_rf (W := []) (P := P671595) (F := F671596)) n671758
      have tp671763 : tP I P671595 F671756 p671603 qo671607 qo671612 qo671611 xt671622 := tP_put x671626 heq671598 (by decide) n671758
      refine G_aload_n 2 dr_cX14_operand_59 rfl ?_
      refine G_iload_n 0 dr_cX14_operand_60 rfl ?_
      refine Gp_put 5 hmq671598 he671761 dr_cX14_operand_61 (gk_X15 D I) (Nat.le_of_ble_eq_true rfl) wr_9_198 rfl rfl rfl (Nat.le_of_ble_eq_true rfl) (fun F671764 e671765 n671766 => ?_)
      have he671767 : F671764 q671597 = .inr (19, [.ref q671599, .int p671601, .int p671602, .int p671603, .int p671604, .int p671605, .int p671606, .ref qo671607, .int p671608, .int p671609, .int p671610, .ref qo671611, .ref qo671612, .int p671613]) := (n671766 q671597 (rn_oo he671759 he671761 (by decide))).trans he671759
      have he671768 : F671764 q671599 = .inl (I .byte, 8192, .inl f671621) := (n671766 q671599 (rn_ao he671760 he671761)).trans he671760
      have he671769 : F671764 q671598 = .inr (20, [.int p671614, .int p671615, .int p671605, .int p671617, .int p671618, .int 1, .int p671620]) := e671765
      have hfr671770 : rFr [q671598] P671595 F671596 F671764 := rFr_put' List.mem_cons_self hfr671762 n671766
      have tp671771 : tP I P671595 F671764 p671603 qo671607 qo671612 qo671611 xt671622 := tP_put tp671763 he671761 (by decide) n671766
      refine G_aload_n 1 dr_cX14_operand_64 rfl ?_
      refine Gw_callV (As := []) (gV_ok D I) (cp_669296_Reader_next l hl0 D I P671595 F671764 q671597 q671599 p671601 p671602 p671603 p671604 p671605 p671606 qo671607 p671608 p671609 p671610 qo671611 qo671612 p671613 f671621 hmq671597 hmq671599 he671767 he671768 bp671601 bp671602 (gB_w bp671603' (by decide) (by decide)) bp671604 bp671606 bp671608 bp671609 bp671610 bp671613 bf671621 (by have qa0 : Int32.toInt 1 = 1 := (by decide); omega) x671624 x671625) dr_cX14_operand_65 ⟨wr_7_215, wr_1_32, wr_7_218, by decide, rfl, (Nat.le_of_ble_eq_true rfl), (Nat.le_of_ble_eq_true rfl)⟩ wr_7_217 wr_p_75 hmq671597 he671767 rfl (show 0 + ((16 * (p671601.toInt - p671602.toInt)).toNat) ≤ ((16 * (p671601.toInt - p671602.toInt)).toNat + 1) by first | omega | decide) (show 0 + ((160 * (p671601.toInt - p671602.toInt)).toNat) ≤ ((160 * (p671601.toInt - p671602.toInt)).toNat + 7) by first | omega | decide) (Nat.le_of_ble_eq_true rfl) (fun r671775 w671776 dc671772 ds671773 hp671774 => ?_) (fun _ _ _ _ _ z => z.elim)
      obtain ⟨P671789, F671790, o671777, o671778, o671779, o671780, q671781, xt671788, rfl, rfl, hsb671791, hfr671792, he671793, he671794, hdc, hds, bo671777, bo671778, bo671779, x671782, x671783, x671784, x671785, x671786, ht671787⟩ := hp671774
      have hm671795 : q671597 ∈ P671789 := hsb671791 q671597 hmq671597
      have hm671796 : q671598 ∈ P671789 := hsb671791 q671598 hmq671598
      have hm671797 : q671599 ∈ P671789 := hsb671791 q671599 hmq671599
      have hsb671798 : rSub P671595 P671789 := rSub_tr (rSub_rf (P := P671595)) hsb671791
      have he671799 : F671790 q671598 = .inr (20, [.int p671614, .int p671615, .int p671605, .int p671617, .int p671618, .int 1, .int p671620]) := (hfr671792 q671598 hmq671598 (nm_c (rn_oo he671769 he671767 (by decide)) nm_n)).trans he671769
      have hfr671800 : rFr [q671598, q671597] P671595 F671596 F671790 := rFr_call (rSub_rf (P := P671595)) hfr671770 hfr671792 (fun b hb hn => ⟨(nm_c (fun e => hn (e ▸ List.mem_cons_self)) nm_n), (nm_c (fun e => hn (e ▸ (List.mem_cons_of_mem _ List.mem_cons_self))) nm_n)⟩)
      have bo671780 := gB_any o671780
      change G _ _ _ _ _ _ _ _ _ _ _
      refine G_widen (cs' := (16 * (o671777.toInt - p671602.toInt)).toNat) (sl' := (160 * (o671777.toInt - p671602.toInt)).toNat) (by omega) (by omega) ?_
      exact G_vretA dr_cX14_operand_68 rfl (show (16 * (o671777.toInt - p671602.toInt)).toNat ≤ ((16 * (p671601.toInt - p671602.toInt)).toNat + 1) by omega) (show (160 * (o671777.toInt - p671602.toInt)).toNat ≤ ((160 * (p671601.toInt - p671602.toInt)).toNat + 7) by omega) ⟨P671789, F671790, o671777, o671778, o671779, o671780, q671781, p671605, p671617, 1, p671620, xt671788, rfl, rfl, hsb671798, hfr671800, he671799, he671793, he671794, (by omega), (by omega), bo671777, bo671778, bo671779, (gB_w (gBl (show Int32.toInt 1 = 1 by decide)) (by decide) (by decide)), bp671620, (by have qa0 : Int32.toInt 1 = 1 := (by decide); omega), x671783, (by have qa0 : Int32.toInt 1 = 1 := (by decide); omega), x671785, x671786, (rwP_1 x671627 (by omega)), x671629, (show nzK p671603 by unfold nzK; omega), (fun R c1 c2 c3 c4 => c3 xt671788 o671777 o671778 o671779 o671780 r671753 r671755 bo671777 bo671778 bo671779 ht671787)⟩
    · have r671801 : p671600.toInt ≠ 0 := gj_neq hc671754 (show Int32.toInt 0 = 0 by decide)
      have bp671600' : gB p671600 1 1 := ⟨by omega, by omega⟩
      refine G_aload_n 2 dr_cX14_operand_35 rfl ?_
      refine G_aload_n 1 dr_cX14_operand_36 rfl ?_
      refine Gp_get 5 hmq671597 heq671597 dr_cX14_operand_37 (gk_X14 D I) (Nat.le_of_ble_eq_true rfl) wr_9_41 rfl ?_
      refine Gp_put 3 hmq671598 heq671598 dr_cX14_operand_40 (gk_X15 D I) (Nat.le_of_ble_eq_true rfl) wr_9_191 rfl rfl rfl (Nat.le_of_ble_eq_true rfl) (fun F671802 e671803 n671804 => ?_)
      have he671805 : F671802 q671597 = .inr (19, [.ref q671599, .int p671601, .int p671602, .int p671603, .int p671604, .int p671605, .int p671606, .ref qo671607, .int p671608, .int p671609, .int p671610, .ref qo671611, .ref qo671612, .int p671613]) := (n671804 q671597 (rn_oo heq671597 heq671598 (by decide))).trans heq671597
      have he671806 : F671802 q671599 = .inl (I .byte, 8192, .inl f671621) := (n671804 q671599 (rn_ao heq671599 heq671598)).trans heq671599
      have he671807 : F671802 q671598 = .inr (20, [.int p671614, .int p671615, .int p671616, .int p671605, .int p671618, .int p671619, .int p671620]) := e671803
      have hfr671808 : rFr [q671598] P671595 F671596 F671802 := rFr_put (rFr_rf (W := []) (P := P671595) (F := F671596)) n671804
      have tp671809 : tP I P671595 F671802 p671603 qo671607 qo671612 qo671611 xt671622 := tP_put x671626 heq671598 (by decide) n671804
      refine G_aload_n 2 dr_cX14_operand_43 rfl ?_
      refine G_iload_n 0 dr_cX14_operand_44 rfl ?_
      refine Gp_put 6 hmq671598 he671807 dr_cX14_operand_45 (gk_X15 D I) (Nat.le_of_ble_eq_true rfl) wr_9_201 rfl rfl rfl (Nat.le_of_ble_eq_true rfl) (fun F671810 e671811 n671812 => ?_)
      have he671813 : F671810 q671597 = .inr (19, [.ref q671599, .int p671601, .int p671602, .int p671603, .int p671604, .int p671605, .int p671606, .ref qo671607, .int p671608, .int p671609, .int p671610, .ref qo671611, .ref qo671612, .int p671613]) := (n671812 q671597 (rn_oo he671805 he671807 (by decide))).trans he671805
      have he671814 : F671810 q671599 = .inl (I .byte, 8192, .inl f671621) := (n671812 q671599 (rn_ao he671806 he671807)).trans he671806
      have he671815 : F671810 q671598 = .inr (20, [.int p671614, .int p671615, .int p671616, .int p671605, .int p671618, .int p671619, .int 1]) := e671811
      have hfr671816 : rFr [q671598] P671595 F671596 F671810 := rFr_put' List.mem_cons_self hfr671808 n671812
      have tp671817 : tP I P671595 F671810 p671603 qo671607 qo671612 qo671611 xt671622 := tP_put tp671809 he671807 (by decide) n671812
      refine G_goto 64 dr_cX14_operand_48 (by decide +kernel) ?_
      refine G_aload_n 1 dr_cX14_operand_64 rfl ?_
      refine Gw_callV (As := []) (gV_ok D I) (cp_669296_Reader_next l hl0 D I P671595 F671810 q671597 q671599 p671601 p671602 p671603 p671604 p671605 p671606 qo671607 p671608 p671609 p671610 qo671611 qo671612 p671613 f671621 hmq671597 hmq671599 he671813 he671814 bp671601 bp671602 (gB_w bp671603' (by decide) (by decide)) bp671604 bp671606 bp671608 bp671609 bp671610 bp671613 bf671621 (by have qa0 : Int32.toInt 1 = 1 := (by decide); omega) x671624 x671625) dr_cX14_operand_65 ⟨wr_7_215, wr_1_32, wr_7_218, by decide, rfl, (Nat.le_of_ble_eq_true rfl), (Nat.le_of_ble_eq_true rfl)⟩ wr_7_217 wr_p_75 hmq671597 he671813 rfl (show 0 + ((16 * (p671601.toInt - p671602.toInt)).toNat) ≤ ((16 * (p671601.toInt - p671602.toInt)).toNat + 1) by first | omega | decide) (show 0 + ((160 * (p671601.toInt - p671602.toInt)).toNat) ≤ ((160 * (p671601.toInt - p671602.toInt)).toNat + 7) by first | omega | decide) (Nat.le_of_ble_eq_true rfl) (fun r671821 w671822 dc671818 ds671819 hp671820 => ?_) (fun _ _ _ _ _ z => z.elim)
      obtain ⟨P671835, F671836, o671823, o671824, o671825, o671826, q671827, xt671834, rfl, rfl, hsb671837, hfr671838, he671839, he671840, hdc, hds, bo671823, bo671824, bo671825, x671828, x671829, x671830, x671831, x671832, ht671833⟩ := hp671820
      have hm671841 : q671597 ∈ P671835 := hsb671837 q671597 hmq671597
      have hm671842 : q671598 ∈ P671835 := hsb671837 q671598 hmq671598
      have hm671843 : q671599 ∈ P671835 := hsb671837 q671599 hmq671599
      have hsb671844 : rSub P671595 P671835 := rSub_tr (rSub_rf (P := P671595)) hsb671837
      have he671845 : F671836 q671598 = .inr (20, [.int p671614, .int p671615, .int p671616, .int p671605, .int p671618, .int p671619, .int 1]) := (hfr671838 q671598 hmq671598 (nm_c (rn_oo he671815 he671813 (by decide)) nm_n)).trans he671815
      have hfr671846 : rFr [q671598, q671597] P671595 F671596 F671836 := rFr_call (rSub_rf (P := P671595)) hfr671816 hfr671838 (fun b hb hn => ⟨(nm_c (fun e => hn (e ▸ List.mem_cons_self)) nm_n), (nm_c (fun e => hn (e ▸ (List.mem_cons_of_mem _ List.mem_cons_self))) nm_n)⟩)
      have bo671826 := gB_any o671826
      change G _ _ _ _ _ _ _ _ _ _ _
      refine G_widen (cs' := (16 * (o671823.toInt - p671602.toInt)).toNat) (sl' := (160 * (o671823.toInt - p671602.toInt)).toNat) (by omega) (by omega) ?_
      exact G_vretA dr_cX14_operand_68 rfl (show (16 * (o671823.toInt - p671602.toInt)).toNat ≤ ((16 * (p671601.toInt - p671602.toInt)).toNat + 1) by omega) (show (160 * (o671823.toInt - p671602.toInt)).toNat ≤ ((160 * (p671601.toInt - p671602.toInt)).toNat + 7) by omega) ⟨P671835, F671836, o671823, o671824, o671825, o671826, q671827, p671616, p671605, p671619, 1, xt671834, rfl, rfl, hsb671844, hfr671846, he671845, he671839, he671840, (by omega), (by omega), bo671823, bo671824, bo671825, bp671619, (gB_w (gBl (show Int32.toInt 1 = 1 by decide)) (by decide) (by decide)), (by have qa0 : Int32.toInt 1 = 1 := (by decide); omega), x671829, (by have qa0 : Int32.toInt 1 = 1 := (by decide); omega), x671831, x671832, x671628, (rwP_1 x671627 (by omega)), (show nzK p671603 by unfold nzK; omega), (fun R c1 c2 c3 c4 => c4 xt671834 o671823 o671824 o671825 o671826 r671753 r671801 bo671823 bo671824 bo671825 ht671833)⟩
/- tr_RStringLatin1_charAt2: result -/
def tr_RStringLatin1_charAt2 (bs : List Int32) (a1 : Int32) (o1 : Int32) : Prop := ∀ R : (Int32) → Prop,
  (∀ (x1 : Int32) (x2 : Int32) (x3 : Int32) (x4 : Int32), x1.toInt = (bs.length : Int) → tr_RString_checkIndex a1 x1 → x2 = bs.getD a1.toNatClampNeg 0 → x3 = x2 &&& (255 : Int32) → x4 = (x3.toUInt32 % 65536).toInt32 → R x4) →
  R o1
abbrev ky_672040_StringLatin1_charAt : gKey := (cJ1_charAt_3b067, 2, "java/lang/StringLatin1", (some FieldType.char), [], "charAt", fun _ _ => True)
def pp_672040_StringLatin1_charAt (D : va_G) (I : FieldType → ClassId) (P672034 : List Nat) (F672035 : Nat → va_E) (qs672036 : Nat) (bs672037 : List Int32) (p672038 : Int32) : Option Value → va_W → Nat → Nat → Prop := fun r w dc ds => ∃ (o672051 : Int32), r = some (.int o672051) ∧ w = va_pl P672034 F672035 ∧ dc ≤ 0 ∧ ds ≤ 0 ∧ gB o672051 0 255 ∧ chP (fun j => bs672037.getD j 0) p672038 o672051 ∧ tr_RStringLatin1_charAt2 bs672037 p672038 o672051
set_option maxRecDepth 100000 in
set_option maxHeartbeats 4000000 in
theorem cp_672040_StringLatin1_charAt (l : Launch) (hl0 : l.stackTraces = false) (D : va_G) (I : FieldType → ClassId) (P672034 : List Nat) (F672035 : Nat → va_E) (qs672036 : Nat) (bs672037 : List Int32) (p672038 : Int32) (hbs672037 : ∀ A s H, (gV D I).2.2.2.1 A s H → va_T .byte qs672036 bs672037.length (fun j => .int (bs672037.getD j 0)) A s H) (nbs672037 : (bs672037.length : Int) ≤ 65535) (lbs672037 : gLB bs672037) (bp672038 : gB p672038 0 16777215) (x672039 : p672038.toInt < (bs672037.length : Int)) : CtA (gV D I) l yJ1_charAt_3b067 cJ1_charAt_3b067 2 (some FieldType.char) 2 43 0 0 [.ref qs672036, .int p672038] (va_pl P672034 F672035) (pp_672040_StringLatin1_charAt D I P672034 F672035 qs672036 bs672037 p672038) gNA := by
  refine CtA_ofF hl0 (by decide +kernel) (Nat.le_of_ble_eq_true rfl) ?_
  refine G_iload_n 1 dr_cJ1_charAt_3b067_0 rfl ?_
  refine G_aload_n 0 dr_cJ1_charAt_3b067_1 rfl ?_
  refine G_klen dr_cJ1_charAt_3b067_2 hbs672037 (G_nam fun z672041 hz672041 => ?_)
  have ez672041 : z672041.toInt = (bs672037.length : Int) := gI_ofN hz672041 nbs672037
  have bz672041 : gB z672041 0 65535 := ⟨by omega, by omega⟩
  refine Gw_callS (As := [.int p672038, .int z672041]) (gV_ok D I) (cp_655389_String_checkIndex l hl0 D I P672034 F672035 p672038 z672041 (gB_w bp672038 (by decide) (by decide)) (gB_w bz672041 (by decide) (by decide)) (by omega)) dr_cJ1_charAt_3b067_3 ⟨wr_3_78, wr_1_21, wr_3_80, by decide, rfl, (Nat.le_of_ble_eq_true rfl), (Nat.le_of_ble_eq_true rfl)⟩ wr_3_79 (show 0 + 0 ≤ 0 by first | omega | decide) (show 0 + 0 ≤ 0 by first | omega | decide) (Nat.le_of_ble_eq_true rfl) (fun r672045 w672046 dc672042 ds672043 hp672044 => ?_) (fun _ _ _ _ _ z => z.elim)
  obtain ⟨rfl, rfl, hdc, hds, ht672047⟩ := hp672044
  change G _ _ _ _ _ _ _ _ _ _ _
  refine G_widen (cs' := 0) (sl' := 0) (by omega) (by omega) ?_
  refine G_aload_n 0 dr_cJ1_charAt_3b067_6 rfl ?_
  refine G_iload_n 1 dr_cJ1_charAt_3b067_7 rfl ?_
  refine G_kbald (f := fun j => bs672037.getD j 0) dr_cJ1_charAt_3b067_8 hbs672037 (gB_inr (by omega) (by omega)) (G_nam fun z672048 hz672048 => ?_)
  have bz672048 : gB z672048 (-2147483648) 2147483647 := gB_any z672048
  refine G_sipush 255 dr_cJ1_charAt_3b067_9 (by decide +kernel) ?_
  refine G_iand dr_cJ1_charAt_3b067_12 (G_nam fun z672049 hz672049 => ?_)
  have bz672049 : gB z672049 0 255 := gB_and hz672049 (gBl (show Int32.toInt 255 = 255 by decide)) (by decide)
  refine G_i2c dr_cJ1_charAt_3b067_13 (G_nam fun z672050 hz672050 => ?_)
  have ez672050 : z672050.toInt = z672049.toInt := gI_i2c hz672050 (by omega) (by omega)
  have bz672050 : gB z672050 0 255 := ⟨by omega, by omega⟩
  exact G_zretA FieldType.char dr_cJ1_charAt_3b067_14 rfl (gN_char (gB_w bz672050 (by decide) (by decide))) (Nat.le_of_ble_eq_true rfl) (Nat.le_of_ble_eq_true rfl) ⟨z672050, rfl, rfl, (Nat.le_of_ble_eq_true rfl), (Nat.le_of_ble_eq_true rfl), bz672050, (chP_of (by assumption) (by assumption) (by omega) (chb lbs672037 (by assumption))), (fun R c1 => c1 z672041 z672048 z672049 z672050 ez672041 ht672047 hz672048 hz672049 hz672050)⟩
/- tr_RString_charAt2: result -/
def tr_RString_charAt2 (bs : List Int32) (a1 : Int32) (o1 : Int32) : Prop := ∀ R : (Int32) → Prop,
  (∀ (x1 : Int32), gB x1 0 255 → tr_RStringLatin1_charAt2 bs a1 x1 → R x1) →
  R o1
abbrev ky_672028_String_charAt : gKey := (cJ0_charAt_5068e, 2, "java/lang/String", (some FieldType.char), [], "charAt", fun _ _ => True)
def pp_672028_String_charAt (D : va_G) (I : FieldType → ClassId) (P672021 : List Nat) (F672022 : Nat → va_E) (qs672023 : Nat) (qb672024 : Nat) (bs672025 : List Int32) (p672026 : Int32) : Option Value → va_W → Nat → Nat → Prop := fun r w dc ds => ∃ (o672060 : Int32), r = some (.int o672060) ∧ w = va_pl P672021 F672022 ∧ dc ≤ 0 ∧ ds ≤ 0 ∧ gB o672060 0 255 ∧ chP (fun j => bs672025.getD j 0) p672026 o672060 ∧ tr_RString_charAt2 bs672025 p672026 o672060
set_option maxRecDepth 100000 in
set_option maxHeartbeats 4000000 in
theorem cp_672028_String_charAt (l : Launch) (hl0 : l.stackTraces = false) (D : va_G) (I : FieldType → ClassId) (P672021 : List Nat) (F672022 : Nat → va_E) (qs672023 : Nat) (qb672024 : Nat) (bs672025 : List Int32) (p672026 : Int32) (hbs672025 : ∀ A s H, (gV D I).2.2.2.1 A s H → gSC qs672023 qb672024 bs672025 A s H) (nbs672025 : (bs672025.length : Int) ≤ 65535) (lbs672025 : gLB bs672025) (bp672026 : gB p672026 0 65535) (x672027 : p672026.toInt < (bs672025.length : Int)) : CtA (gV D I) l yJ0_charAt_5068e cJ0_charAt_5068e 2 (some FieldType.char) 3 64 0 0 [.ref qs672023, .int p672026] (va_pl P672021 F672022) (pp_672028_String_charAt D I P672021 F672022 qs672023 qb672024 bs672025 p672026) gNA := by
  refine CtA_ofF hl0 (by decide +kernel) (Nat.le_of_ble_eq_true rfl) ?_
  refine G_aload_n 0 dr_cJ0_charAt_5068e_0 rfl ?_
  refine Gw_callVk (As := []) (gV_ok D I) (cp_657070_String_isLatin1 l hl0 D I P672021 F672022 qs672023 qb672024 bs672025 hbs672025 nbs672025 lbs672025) dr_cJ0_charAt_5068e_1 ⟨wr_3_71, wr_1_21, wr_3_74, by decide, rfl, (Nat.le_of_ble_eq_true rfl), (Nat.le_of_ble_eq_true rfl)⟩ wr_3_72 wr_3_73 (fun _ _ _ h => (hbs672025 _ _ _ h).1) (show 0 + 0 ≤ 0 by first | omega | decide) (show 0 + 0 ≤ 0 by first | omega | decide) (Nat.le_of_ble_eq_true rfl) (fun r672032 w672033 dc672029 ds672030 hp672031 => ?_) (fun _ _ _ _ _ z => z.elim)
  obtain ⟨rfl, rfl, hdc, hds⟩ := hp672031
  change G _ _ _ _ _ _ _ (.int 1 :: _) _ _ _
  refine G_widen (cs' := 0) (sl' := 0) (by omega) (by omega) ?_
  refine G_if_eq 16 dr_cJ0_charAt_5068e_4 (by decide +kernel) (fun hc => absurd hc (by decide)) (fun _ => ?_)
  refine G_aload_n 0 dr_cJ0_charAt_5068e_7 rfl ?_
  refine G_kget dr_cJ0_charAt_5068e_8 wr_8_182 (fun _ _ _ h => (hbs672025 _ _ _ h).2.2.1) ?_
  refine G_iload_n 1 dr_cJ0_charAt_5068e_11 rfl ?_
  refine Gw_callS (As := [.ref qb672024, .int p672026]) (gV_ok D I) (cp_672040_StringLatin1_charAt l hl0 D I P672021 F672022 qb672024 bs672025 p672026 (fun _ _ _ h => (hbs672025 _ _ _ h).2.2.2) (by omega) lbs672025 (gB_w bp672026 (by decide) (by decide)) (by omega)) dr_cJ0_charAt_5068e_12 ⟨wr_3_75, wr_1_28, wr_3_77, by decide, rfl, (Nat.le_of_ble_eq_true rfl), (Nat.le_of_ble_eq_true rfl)⟩ wr_3_76 (show 0 + 0 ≤ 0 by first | omega | decide) (show 0 + 0 ≤ 0 by first | omega | decide) (Nat.le_of_ble_eq_true rfl) (fun r672055 w672056 dc672052 ds672053 hp672054 => ?_) (fun _ _ _ _ _ z => z.elim)
  obtain ⟨o672057, rfl, rfl, hdc, hds, bo672057, x672058, ht672059⟩ := hp672054
  change G _ _ _ _ _ _ _ (.int o672057 :: _) _ _ _
  refine G_widen (cs' := 0) (sl' := 0) (by omega) (by omega) ?_
  exact G_zretA FieldType.char dr_cJ0_charAt_5068e_15 rfl (gN_char (gB_w bo672057 (by decide) (by decide))) (Nat.le_of_ble_eq_true rfl) (Nat.le_of_ble_eq_true rfl) ⟨o672057, rfl, rfl, (Nat.le_of_ble_eq_true rfl), (Nat.le_of_ble_eq_true rfl), bo672057, x672058, (fun R c1 => c1 o672057 bo672057 ht672059)⟩
/- tl_RModel_operation_40: l3, l2; out: l2 -/
def tl_RModel_operation_40 (c1 : Int32) (s1 : Int32) (s2 : Int32) (k : Nat) (e1 : Int32) : Prop := ∀ R : (Int32) → (Int32) → Nat → (Int32) → Prop,
  (∀ (l3_1 : Int32) (l2_1 : Int32), gB l3_1 0 16777215 → c1.toInt ≤ l3_1.toInt → R l3_1 l2_1 70 l2_1) →
  (∀ (l3_1 : Int32) (l2_1 : Int32) (x1 : Int32) (x2 : Int32) (x3 : Int32) (k : Nat) (e1 : Int32), gB l3_1 0 16777215 → l3_1.toInt < c1.toInt → gB x1 0 255 → tr_RString_charAt2 sb_42 l3_1 x1 → x1.toInt ≠ 32 → x2.toInt = l2_1.toInt + 0 → x3.toInt = l3_1.toInt + 1 → R x3 x2 k e1 → R l3_1 l2_1 k e1) →
  (∀ (l3_1 : Int32) (l2_1 : Int32) (x1 : Int32) (x2 : Int32) (x3 : Int32) (k : Nat) (e1 : Int32), gB l3_1 0 16777215 → l3_1.toInt < c1.toInt → gB x1 0 255 → tr_RString_charAt2 sb_42 l3_1 x1 → x1.toInt = 32 → x2.toInt = l2_1.toInt + 1 → x3.toInt = l3_1.toInt + 1 → R x3 x2 k e1 → R l3_1 l2_1 k e1) →
  R s1 s2 k e1
/- tr_RModel_operation: result -/
def tr_RModel_operation (a0_value_v : Nat → Int32) (a0_value_n : Nat) (o1 : Int32) : Prop := ∀ R : (Int32) → Prop,
  (∀ (x1 : Int32) (x2 : Nat → Int32) (x3 : Int32) (x4 : Nat → Int32) (x5 : Int32) (x6 : Nat → Int32) (x7 : Nat) (x8 : Nat → Int32) (x9 : Int32) (x10 : Int32), gB x1 0 16777216 → (tr_RStringBuilder_append4 sb_43 (0 : Int32) (fun _ => 0) 16 x1 x2) → gB x3 0 16777216 → tr_RStringBuilder_append3 x1 x2 16 a0_value_v a0_value_n x3 x4 → gB x5 0 16777216 → tr_RStringBuilder_append4 sb_43 x3 x4 16 x5 x6 → tr_RStringBuilder_toString x5 x6 16 x7 x8 → gB x9 (-2147483646) 16777215 → tr_RString_indexOf sb_42 x8 x7 x9 → 0 ≤ x9.toInt → tl_RModel_operation_40 x9 (0 : Int32) (1 : Int32) 70 x10 → R x10) →
  (∀ (x1 : Int32) (x2 : Nat → Int32) (x3 : Int32) (x4 : Nat → Int32) (x5 : Int32) (x6 : Nat → Int32) (x7 : Nat) (x8 : Nat → Int32) (x9 : Int32), gB x1 0 16777216 → (tr_RStringBuilder_append4 sb_43 (0 : Int32) (fun _ => 0) 16 x1 x2) → gB x3 0 16777216 → tr_RStringBuilder_append3 x1 x2 16 a0_value_v a0_value_n x3 x4 → gB x5 0 16777216 → tr_RStringBuilder_append4 sb_43 x3 x4 16 x5 x6 → tr_RStringBuilder_toString x5 x6 16 x7 x8 → gB x9 (-2147483646) 16777215 → tr_RString_indexOf sb_42 x8 x7 x9 → x9.toInt < 0 → R (0 : Int32)) →
  R o1
abbrev ky_671871_SpillForgeModel_operation : gKey := (cX17_operation, 4, "SpillForgeModel", (some FieldType.int), [], "operation", fun _ _ => True)
def pp_671871_SpillForgeModel_operation (D : va_G) (I : FieldType → ClassId) (P671861 : List Nat) (F671862 : Nat → va_E) (q671863 : Nat) (q671864 : Nat) (p671865 : Int32) (p671866 : Int32) (f671867 : Nat → Int32) (n671868 : Nat) : Option Value → va_W → Nat → Nat → Prop := fun r w dc ds => ∃ (P672226 : List Nat) (F672227 : Nat → va_E) (o672225 : Int32), r = some (.int o672225) ∧ w = va_pl P672226 F672227 ∧ rSub P671861 P672226 ∧ rFr [] P671861 F671862 F672227 ∧ F672227 q671863 = .inr (0, [.ref q671864, .int 0, .int p671865, .int p671866]) ∧ F672227 q671864 = .inl (I .byte, n671868, .inl f671867) ∧ dc ≤ 8 ∧ ds ≤ 64 ∧ gB o672225 0 14 ∧ 0 ≤ o672225.toInt ∧ o672225.toInt ≤ 14 ∧ tr_RModel_operation f671867 n671868 o672225
set_option maxRecDepth 100000 in
set_option maxHeartbeats 4000000 in
theorem cp_671871_SpillForgeModel_operation (l : Launch) (hl0 : l.stackTraces = false) (D : va_G) (I : FieldType → ClassId) (P671861 : List Nat) (F671862 : Nat → va_E) (q671863 : Nat) (q671864 : Nat) (p671865 : Int32) (p671866 : Int32) (f671867 : Nat → Int32) (n671868 : Nat) (hmq671863 : q671863 ∈ P671861) (hmq671864 : q671864 ∈ P671861) (heq671863 : F671862 q671863 = .inr (0, [.ref q671864, .int 0, .int p671865, .int p671866])) (heq671864 : F671862 q671864 = .inl (I .byte, n671868, .inl f671867)) (bp671866 : gB p671866 0 1) (bf671867 : gF f671867 (-128) 127) (x671869 : (n671868 : Int) ≤ 2) (x671870 : ((n671868 : Int) ≤ 16777216)) : CtA (gV D I) l yX17_operation cX17_operation 4 (some FieldType.int) 6 132 8 64 [.ref q671863] (va_pl P671861 F671862) (pp_671871_SpillForgeModel_operation D I P671861 F671862 q671863 q671864 p671865 p671866 f671867 n671868) gNA := by
  refine CtA_of hl0 (by decide) (Nat.le_of_ble_eq_true rfl) ?_
  have bp671865 := gB_any p671865
  refine G_ldcK (a := D.2 1000 42) dr_cX17_operation_0 (fun _ _ _ h => gx_vk 42 rfl rfl h) ?_
  have hl42_671871 : (sb_42.length : Int) = 34 := rfl
  refine G_new [.null, .int 0, .int 0, .int 0] dr_cX17_operation_2 (gk_J4 D I) wr_7_43 wr_7_44 wr_1_20 (gfs_J4) (show 0 + 1 ≤ 8 by first | omega | decide) (show 0 + 4 ≤ 64 by first | omega | decide) (fun q671873 => Gp_in (fun P671874 F671875 hq671876 hP671877 e671878 n671879 => ?_))
  refine G_widen (cs' := 1) (sl' := 4) (by omega) (by omega) ?_
  have he671880 : F671875 q671863 = .inr (0, [.ref q671864, .int 0, .int p671865, .int p671866]) := (n671879 q671863 (fun h => hq671876 (h ▸ hmq671863))).trans heq671863
  have he671881 : F671875 q671864 = .inl (I .byte, n671868, .inl f671867) := (n671879 q671864 (fun h => hq671876 (h ▸ hmq671864))).trans heq671864
  have he671882 : F671875 q671873 = .inr (1, [.null, .int 0, .int 0, .int 0]) := e671878
  have hm671883 : q671863 ∈ P671874 := (hP671877 q671863).mpr (Or.inl hmq671863)
  have hm671884 : q671864 ∈ P671874 := (hP671877 q671864).mpr (Or.inl hmq671864)
  have hm671885 : q671873 ∈ P671874 := (hP671877 q671873).mpr (Or.inr rfl)
  have hq671886 : q671873 ∉ P671861 := fun z => hq671876 ((rSub_rf (P := P671861)) q671873 z)
  have hfr671887 : rFr [] P671861 F671862 F671875 := rFr_new (rSub_rf (P := P671861)) hq671876 (rFr_rf (W := []) (P := P671861) (F := F671862)) n671879
  have hsb671888 : rSub P671861 P671874 := rSub_new (rSub_rf (P := P671861)) hP671877
  refine G_dup dr_cX17_operation_5 rfl ?_
  refine Gw_callI (As := []) (gV_ok D I) (cp_655881_StringBuilder_init l hl0 D I P671874 F671875 q671873 0 0 hm671885 he671882 (gB_w (gBl (show Int32.toInt 0 = 0 by decide)) (by decide) (by decide)) (gB_w (gBl (show Int32.toInt 0 = 0 by decide)) (by decide) (by decide))) dr_cX17_operation_6 ⟨wr_7_45, wr_1_20, wr_7_47, by decide, rfl, (Nat.le_of_ble_eq_true rfl), (Nat.le_of_ble_eq_true rfl)⟩ wr_7_46 rfl (show 1 + 1 ≤ 8 by first | omega | decide) (show 4 + 16 ≤ 64 by first | omega | decide) (Nat.le_of_ble_eq_true rfl) (fun r671892 w671893 dc671889 ds671890 hp671891 => ?_)
  obtain ⟨P671895, F671896, q671894, rfl, rfl, hsb671897, hfr671898, he671899, he671900, hm671901, hq671902, hdc, hds⟩ := hp671891
  have hm671903 : q671863 ∈ P671895 := hsb671897 q671863 hm671883
  have hm671904 : q671864 ∈ P671895 := hsb671897 q671864 hm671884
  have hm671905 : q671873 ∈ P671895 := hsb671897 q671873 hm671885
  have hq671906 : q671894 ∉ P671861 := fun z => hq671902 (hsb671888 q671894 z)
  have hsb671907 : rSub P671861 P671895 := rSub_tr hsb671888 hsb671897
  have he671908 : F671896 q671863 = .inr (0, [.ref q671864, .int 0, .int p671865, .int p671866]) := (hfr671898 q671863 hm671883 (nm_c (fun h => hq671886 (h ▸ hmq671863)) nm_n)).trans he671880
  have he671909 : F671896 q671864 = .inl (I .byte, n671868, .inl f671867) := (hfr671898 q671864 hm671884 (nm_c (fun h => hq671886 (h ▸ hmq671864)) nm_n)).trans he671881
  have hfr671910 : rFr [] P671861 F671862 F671896 := rFr_call hsb671888 hfr671887 hfr671898 (fun b hb hn => ⟨nm_n, (nm_c (fun e => hq671886 (e ▸ hb)) nm_n)⟩)
  change G _ _ _ _ _ _ _ _ _ _ _
  refine G_widen (cs' := 2) (sl' := 20) (by omega) (by omega) ?_
  refine G_ldcK (a := D.2 1000 43) dr_cX17_operation_9 (fun _ _ _ h => gx_vk 43 rfl rfl h) ?_
  have hl43_671910 : (sb_43.length : Int) = 1 := rfl
  refine Gw_callV (As := [.ref (D.2 1000 43)]) (gV_ok D I) (cp_656183_StringBuilder_append l hl0 D I P671895 F671896 q671873 q671894 (D.2 1000 43) (D.2 1001 43) sb_43 0 0 (fun _ => 0) 16 hm671905 hm671901 he671899 he671900 (gx_sc 43 rfl rfl) (by omega) (by decide +kernel) (gB_w (gBl (show Int32.toInt 0 = 0 by decide)) (by decide) (by decide)) (gB_w (gBl (show Int32.toInt 0 = 0 by decide)) (by decide) (by decide)) (gF_w gF_0 (by decide) (by decide)) (by have qa0 : Int32.toInt 0 = 0 := (by decide); omega) (by have qa0 : Int32.toInt 0 = 0 := (by decide); omega)) dr_cX17_operation_11 ⟨wr_10_100, wr_1_20, wr_8_143, by decide, rfl, (Nat.le_of_ble_eq_true rfl), (Nat.le_of_ble_eq_true rfl)⟩ wr_8_141 wr_8_142 hm671905 he671899 rfl (show 2 + 0 ≤ 8 by first | omega | decide) (show 20 + 0 ≤ 64 by first | omega | decide) (Nat.le_of_ble_eq_true rfl) (fun r671915 w671916 dc671912 ds671913 hp671914 => ?_) (fun _ _ _ _ _ z => z.elim)
  obtain ⟨F671923, o671917, f671918, rfl, rfl, hfr671925, he671926, he671927, hdc, hds, bo671917, bf671918, x671919, x671920, x671921, ht671922⟩ := hp671914
  have he671928 : F671923 q671863 = .inr (0, [.ref q671864, .int 0, .int p671865, .int p671866]) := (hfr671925 q671863 hm671903 (nm_c (fun h => hq671886 (h ▸ hmq671863)) (nm_c (fun h => hq671906 (h ▸ hmq671863)) nm_n))).trans he671908
  have he671929 : F671923 q671864 = .inl (I .byte, n671868, .inl f671867) := (hfr671925 q671864 hm671904 (nm_c (fun h => hq671886 (h ▸ hmq671864)) (nm_c (fun h => hq671906 (h ▸ hmq671864)) nm_n))).trans he671909
  have hfr671930 : rFr [] P671861 F671862 F671923 := rFr_call hsb671907 hfr671910 hfr671925 (fun b hb hn => ⟨nm_n, (nm_c (fun e => hq671886 (e ▸ hb)) (nm_c (fun e => hq671906 (e ▸ hb)) nm_n))⟩)
  rw [show Int32.toInt 0 = 0 from by decide] at x671919
  rw [show Int32.toInt 0 = 0 from by decide] at x671920
  rw [show Int32.toInt 0 = 0 from by decide] at x671921
  change G _ _ _ _ _ _ _ (.ref q671873 :: _) _ _ _
  refine G_widen (cs' := 2) (sl' := 20) (by omega) (by omega) ?_
  refine G_aload_n 0 dr_cX17_operation_14 rfl ?_
  refine Gw_callV (As := [.ref q671863]) (gV_ok D I) (cp_655955_StringBuilder_append l hl0 D I P671895 F671923 q671873 q671863 q671894 q671864 0 o671917 p671865 p671866 f671918 16 f671867 n671868 hm671905 hm671903 hm671901 hm671904 he671926 he671928 he671927 he671929 (fun h => hq671906 (h ▸ hmq671864)) (gB_w (gBl (show Int32.toInt 0 = 0 by decide)) (by decide) (by decide)) bo671917 bp671866 bf671918 bf671867 (by have qa0 : Int32.toInt 0 = 0 := (by decide); omega) (by have qa0 : Int32.toInt 0 = 0 := (by decide); omega) (by have qa0 : Int32.toInt 0 = 0 := (by decide); omega)) dr_cX17_operation_15 ⟨wr_10_100, wr_1_20, wr_8_143, by decide, rfl, (Nat.le_of_ble_eq_true rfl), (Nat.le_of_ble_eq_true rfl)⟩ wr_8_141 wr_8_142 hm671905 he671926 rfl (show 2 + 0 ≤ 8 by first | omega | decide) (show 20 + 0 ≤ 64 by first | omega | decide) (Nat.le_of_ble_eq_true rfl) (fun r671934 w671935 dc671931 ds671932 hp671933 => ?_) (fun _ _ _ _ _ z => z.elim)
  obtain ⟨F671942, o671936, f671937, rfl, rfl, hfr671944, he671945, he671946, he671947, he671948, hdc, hds, bo671936, bf671937, x671938, x671939, x671940, ht671941⟩ := hp671933
  have hfr671949 : rFr [] P671861 F671862 F671942 := rFr_call hsb671907 hfr671930 hfr671944 (fun b hb hn => ⟨nm_n, (nm_c (fun e => hq671886 (e ▸ hb)) (nm_c (fun e => hq671906 (e ▸ hb)) nm_n))⟩)
  change G _ _ _ _ _ _ _ (.ref q671873 :: _) _ _ _
  refine G_widen (cs' := 2) (sl' := 20) (by omega) (by omega) ?_
  refine G_ldcK (a := D.2 1000 43) dr_cX17_operation_18 (fun _ _ _ h => gx_vk 43 rfl rfl h) ?_
  have hl43_671949 : (sb_43.length : Int) = 1 := rfl
  refine Gw_callV (As := [.ref (D.2 1000 43)]) (gV_ok D I) (cp_656183_StringBuilder_append l hl0 D I P671895 F671942 q671873 q671894 (D.2 1000 43) (D.2 1001 43) sb_43 0 o671936 f671937 16 hm671905 hm671901 he671945 he671947 (gx_sc 43 rfl rfl) (by omega) (by decide +kernel) (gB_w (gBl (show Int32.toInt 0 = 0 by decide)) (by decide) (by decide)) bo671936 bf671937 (by have qa0 : Int32.toInt 0 = 0 := (by decide); omega) (by have qa0 : Int32.toInt 0 = 0 := (by decide); omega)) dr_cX17_operation_20 ⟨wr_10_100, wr_1_20, wr_8_143, by decide, rfl, (Nat.le_of_ble_eq_true rfl), (Nat.le_of_ble_eq_true rfl)⟩ wr_8_141 wr_8_142 hm671905 he671945 rfl (show 2 + 0 ≤ 8 by first | omega | decide) (show 20 + 0 ≤ 64 by first | omega | decide) (Nat.le_of_ble_eq_true rfl) (fun r671954 w671955 dc671951 ds671952 hp671953 => ?_) (fun _ _ _ _ _ z => z.elim)
  obtain ⟨F671962, o671956, f671957, rfl, rfl, hfr671964, he671965, he671966, hdc, hds, bo671956, bf671957, x671958, x671959, x671960, ht671961⟩ := hp671953
  have he671967 : F671962 q671863 = .inr (0, [.ref q671864, .int 0, .int p671865, .int p671866]) := (hfr671964 q671863 hm671903 (nm_c (fun h => hq671886 (h ▸ hmq671863)) (nm_c (fun h => hq671906 (h ▸ hmq671863)) nm_n))).trans he671946
  have he671968 : F671962 q671864 = .inl (I .byte, n671868, .inl f671867) := (hfr671964 q671864 hm671904 (nm_c (fun h => hq671886 (h ▸ hmq671864)) (nm_c (fun h => hq671906 (h ▸ hmq671864)) nm_n))).trans he671948
  have hfr671969 : rFr [] P671861 F671862 F671962 := rFr_call hsb671907 hfr671949 hfr671964 (fun b hb hn => ⟨nm_n, (nm_c (fun e => hq671886 (e ▸ hb)) (nm_c (fun e => hq671906 (e ▸ hb)) nm_n))⟩)
  change G _ _ _ _ _ _ _ (.ref q671873 :: _) _ _ _
  refine G_widen (cs' := 2) (sl' := 20) (by omega) (by omega) ?_
  refine Gw_callV (As := []) (gV_ok D I) (cp_656656_StringBuilder_toString l hl0 D I P671895 F671962 q671873 q671894 0 o671956 f671957 16 hm671905 hm671901 he671965 he671966 (gB_w (gBl (show Int32.toInt 0 = 0 by decide)) (by decide) (by decide)) bo671956 bf671957 (by have qa0 : Int32.toInt 0 = 0 := (by decide); omega) (by have qa0 : Int32.toInt 0 = 0 := (by decide); omega)) dr_cX17_operation_23 ⟨wr_10_101, wr_1_20, wr_8_69, by decide, rfl, (Nat.le_of_ble_eq_true rfl), (Nat.le_of_ble_eq_true rfl)⟩ wr_8_67 wr_8_68 hm671905 he671965 rfl (show 2 + 2 ≤ 8 by first | omega | decide) (show 20 + (o671956.toInt.toNat + 4) ≤ 64 by first | omega | decide) (Nat.le_of_ble_eq_true rfl) (fun r671973 w671974 dc671970 ds671971 hp671972 => ?_) (fun _ _ _ _ _ z => z.elim)
  obtain ⟨P671982, F671983, q671975, q671976, n671977, f671978, rfl, rfl, hsb671984, hfr671985, he671986, he671987, he671988, he671989, hm671990, hq671991, hm671992, hq671993, hdc, hds, bf671978, x671979, x671980, ht671981⟩ := hp671972
  have hm671994 : q671863 ∈ P671982 := hsb671984 q671863 hm671903
  have hm671995 : q671864 ∈ P671982 := hsb671984 q671864 hm671904
  have hm671996 : q671873 ∈ P671982 := hsb671984 q671873 hm671905
  have hm671997 : q671894 ∈ P671982 := hsb671984 q671894 hm671901
  have hq671998 : q671975 ∉ P671861 := fun z => hq671991 (hsb671907 q671975 z)
  have hq671999 : q671976 ∉ P671861 := fun z => hq671993 (hsb671907 q671976 z)
  have hsb672000 : rSub P671861 P671982 := rSub_tr hsb671907 hsb671984
  have he672001 : F671983 q671863 = .inr (0, [.ref q671864, .int 0, .int p671865, .int p671866]) := (hfr671985 q671863 hm671903 nm_n).trans he671967
  have he672002 : F671983 q671864 = .inl (I .byte, n671868, .inl f671867) := (hfr671985 q671864 hm671904 nm_n).trans he671968
  have hfr672003 : rFr [] P671861 F671862 F671983 := rFr_call hsb671907 hfr671969 hfr671985 (fun b hb hn => ⟨nm_n, nm_n⟩)
  have hne672004 : q671894 ≠ q671976 := fun h => hq671993 (h ▸ hm671901)
  change G _ _ _ _ _ _ _ (.ref q671975 :: _) _ _ _
  refine G_widen (cs' := 4) (sl' := 20 + (o671956.toInt.toNat + 4)) (by omega) (by omega) ?_
  refine Gw_callVk (As := [.ref q671975]) (gV_ok D I) (cp_657115_String_indexOf l hl0 D I P671982 F671983 q671975 q671976 (D.2 1000 42) (D.2 1001 42) sb_42 0 0 f671978 n671977 hm671990 hm671992 he671986 he671989 (gx_sc 42 rfl rfl) (by omega) (by decide +kernel) (gB_w (gBl (show Int32.toInt 0 = 0 by decide)) (by decide) (by decide)) bf671978 (by have qa0 : Int32.toInt 0 = 0 := (by decide); omega) (by have qa0 : Int32.toInt 0 = 0 := (by decide); omega)) dr_cX17_operation_26 ⟨wr_10_102, wr_1_21, wr_8_199, by decide, rfl, (Nat.le_of_ble_eq_true rfl), (Nat.le_of_ble_eq_true rfl)⟩ wr_8_197 wr_8_198 (fun _ _ _ h => ((gx_sc 42 rfl rfl) _ _ _ h).1) (show 4 + 0 ≤ 8 by first | omega | decide) (show 20 + (o671956.toInt.toNat + 4) + 0 ≤ 64 by first | omega | decide) (Nat.le_of_ble_eq_true rfl) (fun r672008 w672009 dc672005 ds672006 hp672007 => ?_) (fun _ _ _ _ _ z => z.elim)
  obtain ⟨o672010, rfl, rfl, hdc, hds, bo672010, x672011, x672012, ht672013⟩ := hp672007
  change G _ _ _ _ _ _ _ (.int o672010 :: _) _ _ _
  refine G_widen (cs' := 4) (sl' := 20 + (o671956.toInt.toNat + 4) + 0) (by omega) (by omega) ?_
  refine G_istore_n (L' := [(1, .int o672010), (0, .ref q671863)]) dr_cX17_operation_29 (Nat.le_of_ble_eq_true rfl) rfl ?_
  refine G_iload_n 0 dr_cX17_operation_30 rfl ?_
  refine G_if_ge 36 dr_cX17_operation_31 (by decide +kernel) (fun hc672014 => ?_) (fun hc672014 => ?_)
  · have r672015 : 0 ≤ o672010.toInt := gj_leL hc672014 (show Int32.toInt 0 = 0 by decide)
    have bo672010' : gB o672010 0 16777215 := ⟨by omega, by omega⟩
    have x672016 : o672010.toInt ≤ 30 := opA x671921 x671939 x671959 x671980 x672012 (by omega) (by omega) rfl (by omega) (by omega) (by omega) (by omega) (by omega)
    refine G_iconst 1 dr_cX17_operation_36 (by decide +kernel) ?_
    refine G_istore_n (L' := [(2, .int 1), (1, .int o672010), (0, .ref q671863)]) dr_cX17_operation_37 (Nat.le_of_ble_eq_true rfl) rfl ?_
    refine G_iconst 0 dr_cX17_operation_38 (by decide +kernel) ?_
    refine G_istore_n (L' := [(3, .int 0), (2, .int 1), (1, .int o672010), (0, .ref q671863)]) dr_cX17_operation_39 (Nat.le_of_ble_eq_true rfl) rfl ?_
    have hlp40_672201 : ∀ (n40_672201 : Nat) (g672198 : Int32) (g672199 : Int32), gB g672198 0 16777215 → opI g672198 g672199 → g672198.toInt ≤ o672010.toInt → (∀ (k : Nat) (e1 : Int32), tl_RModel_operation_40 o672010 g672198 g672199 k e1 → tl_RModel_operation_40 o672010 (0 : Int32) (1 : Int32) k e1) → ((16777216 : Int) - g672198.toInt).toNat < n40_672201 → G (gV D I) l (gRm 6 132 8 64) (gMA (gV D I) (pp_671871_SpillForgeModel_operation D I P671861 F671862 q671863 q671864 p671865 p671866 f671867 n671868) gNA 8 64) ky_671871_SpillForgeModel_operation 40 [(3, .int g672198), (2, .int g672199), (1, .int o672010), (0, .ref q671863)] [] (va_pl P671982 F671983) 4 (20 + (o671956.toInt.toNat + 4) + 0) := by
      intro n40_672201
      induction n40_672201 with
      | zero => intro g672198 g672199 bg672198 x672200 x672201 kt40_672201 hm40_672201; exact absurd hm40_672201 (Nat.not_lt_zero _)
      | succ n40_672201 ih40_672201 =>
        intro g672198 g672199 bg672198 x672200 x672201 kt40_672201 hm40_672201
        have bg672199 := gB_any g672199
        refine G_iload_n 0 dr_cX17_operation_40 rfl ?_
        refine G_iload_n 2 dr_cX17_operation_41 rfl ?_
        refine G_icmp_ge 70 dr_cX17_operation_42 (by decide +kernel) (fun hc672202 => ?_) (fun hc672202 => ?_)
        · have r672203 : o672010.toInt ≤ g672198.toInt := gC_le hc672202
          have hx672204 : tl_RModel_operation_40 o672010 (0 : Int32) (1 : Int32) 70 g672199 := kt40_672201 70 g672199 (fun R c1 c2 c3 => c1 g672198 g672199 bg672198 r672203)
          have bx672205 : gB g672199 1 14 := opI_b x672200 (by omega)
          refine G_iload_n 1 dr_cX17_operation_70 rfl ?_
          exact G_iretA dr_cX17_operation_71 rfl (Nat.le_of_ble_eq_true rfl) (show 20 + (o671956.toInt.toNat + 4) + 0 ≤ 64 by omega) ⟨P671982, F671983, g672199, rfl, rfl, hsb672000, hfr672003, he672001, he672002, (Nat.le_of_ble_eq_true rfl), (by omega), (gB_w bx672205 (by decide) (by decide)), (by have qa0 : Int32.toInt 0 = 0 := (by decide); omega), (by have qa0 : Int32.toInt 0 = 0 := (by decide); omega), (fun R c1 c2 => c1 o671917 f671918 o671936 f671937 o671956 f671957 n671977 f671978 o672010 g672199 bo671917 ht671922 bo671936 ht671941 bo671956 ht671961 ht671981 bo672010 ht672013 r672015 hx672204)⟩
        · have r672206 : g672198.toInt < o672010.toInt := gC_nle hc672202
          have bg672198' : gB g672198 0 16777214 := ⟨by omega, by omega⟩
          have bo672010'' : gB o672010 1 16777215 := ⟨by omega, by omega⟩
          have bx672207 : gB g672199 1 14 := opI_b x672200 (by omega)
          refine G_iload_n 1 dr_cX17_operation_45 rfl ?_
          refine G_ldcK (a := D.2 1000 42) dr_cX17_operation_46 (fun _ _ _ h => gx_vk 42 rfl rfl h) ?_
          have hl42_672207 : (sb_42.length : Int) = 34 := rfl
          refine G_iload_n 0 dr_cX17_operation_48 rfl ?_
          refine Gw_callVk (As := [.int g672198]) (gV_ok D I) (cp_672028_String_charAt l hl0 D I P671982 F671983 (D.2 1000 42) (D.2 1001 42) sb_42 g672198 (gx_sc 42 rfl rfl) (by omega) (by decide +kernel) ⟨by omega, by omega⟩ (by have qa0 : Int32.toInt 0 = 0 := (by decide); omega)) dr_cX17_operation_49 ⟨wr_10_103, wr_1_21, wr_3_70, by decide, rfl, (Nat.le_of_ble_eq_true rfl), (Nat.le_of_ble_eq_true rfl)⟩ wr_3_68 wr_3_69 (fun _ _ _ h => ((gx_sc 42 rfl rfl) _ _ _ h).1) (show 4 + 0 ≤ 8 by first | omega | decide) (show 20 + (o671956.toInt.toNat + 4) + 0 + 0 ≤ 64 by first | omega | decide) (Nat.le_of_ble_eq_true rfl) (fun r672212 w672213 dc672209 ds672210 hp672211 => ?_) (fun _ _ _ _ _ z => z.elim)
          obtain ⟨o672214, rfl, rfl, hdc, hds, bo672214, x672215, ht672216⟩ := hp672211
          change G _ _ _ _ _ _ _ (.int o672214 :: _) _ _ _
          refine G_widen (cs' := 4) (sl' := 20 + (o671956.toInt.toNat + 4) + 0 + 0) (by omega) (by omega) ?_
          refine G_bipush 32 dr_cX17_operation_52 (by decide +kernel) ?_
          refine G_icmp_ne 61 dr_cX17_operation_54 (by decide +kernel) (fun hc672217 => ?_) (fun hc672217 => ?_)
          · have r672218 : o672214.toInt ≠ 32 := gj_neq hc672217 (show Int32.toInt 32 = 32 by decide)
            refine G_iconst 0 dr_cX17_operation_61 (by decide +kernel) ?_
            refine G_iadd dr_cX17_operation_62 (G_nam fun z672219 hz672219 => ?_)
            have ez672219 : z672219.toInt = g672199.toInt + 0 := by rw [gI_add hz672219 bx672207 (gBl (show Int32.toInt 0 = 0 by decide)) (by decide) (by decide), show Int32.toInt 0 = 0 from by decide]
            have bz672219 : gB z672219 1 14 := gB_add (gI_add hz672219 bx672207 (gBl (show Int32.toInt 0 = 0 by decide)) (by decide) (by decide)) bx672207 (gBl (show Int32.toInt 0 = 0 by decide)) (by decide) (by decide)
            refine G_istore_n (L' := [(2, .int z672219), (3, .int g672198), (1, .int o672010), (0, .ref q671863)]) dr_cX17_operation_63 (Nat.le_of_ble_eq_true rfl) rfl ?_
            obtain ⟨z672220, hz672220⟩ : ∃ z : Int32, z = g672198 + Int32.ofInt 1 := ⟨_, rfl⟩
            have ez672220 : z672220.toInt = g672198.toInt + 1 := gI_inc hz672220 (by decide) bg672198' (by decide) (by decide)
            have bz672220 : gB z672220 1 16777215 := ⟨by omega, by omega⟩
            refine G_iinc (L' := [(3, .int z672220), (2, .int z672219), (1, .int o672010), (0, .ref q671863)]) z672220 1 dr_cX17_operation_64 rfl hz672220.symm (Nat.le_of_ble_eq_true rfl) rfl ?_
            refine G_goto 40 dr_cX17_operation_67 (by decide +kernel) ?_
            exact ih40_672201 z672220 z672219 (gB_w bz672220 (by decide) (by decide)) (by have qa0 : Int32.toInt 0 = 0 := (by decide); have qa1 : Int32.toInt 1 = 1 := (by decide); first | exact opI_st (d := 1) x672200 (by omega) (by omega) (by omega) x672215 (Or.inl ⟨by omega, rfl⟩) | exact opI_st (d := 0) x672200 (by omega) (by omega) (by omega) x672215 (Or.inr ⟨by omega, rfl⟩)) (by have qa0 : Int32.toInt 0 = 0 := (by decide); omega) (fun k e1 ht => kt40_672201 k e1 (fun R c1 c2 c3 => c2 g672198 g672199 o672214 z672219 z672220 k e1 bg672198 r672206 bo672214 ht672216 r672218 ez672219 ez672220 (ht R c1 c2 c3))) (by have qa0 : Int32.toInt 0 = 0 := (by decide); omega)
          · have r672221 : o672214.toInt = 32 := gj_eq hc672217 (show Int32.toInt 32 = 32 by decide)
            have bo672214' : gB o672214 32 32 := ⟨by omega, by omega⟩
            refine G_iconst 1 dr_cX17_operation_57 (by decide +kernel) ?_
            refine G_goto 62 dr_cX17_operation_58 (by decide +kernel) ?_
            refine G_iadd dr_cX17_operation_62 (G_nam fun z672222 hz672222 => ?_)
            have ez672222 : z672222.toInt = g672199.toInt + 1 := by rw [gI_add hz672222 bx672207 (gBl (show Int32.toInt 1 = 1 by decide)) (by decide) (by decide), show Int32.toInt 1 = 1 from by decide]
            have bz672222 : gB z672222 2 15 := gB_add (gI_add hz672222 bx672207 (gBl (show Int32.toInt 1 = 1 by decide)) (by decide) (by decide)) bx672207 (gBl (show Int32.toInt 1 = 1 by decide)) (by decide) (by decide)
            refine G_istore_n (L' := [(2, .int z672222), (3, .int g672198), (1, .int o672010), (0, .ref q671863)]) dr_cX17_operation_63 (Nat.le_of_ble_eq_true rfl) rfl ?_
            obtain ⟨z672223, hz672223⟩ : ∃ z : Int32, z = g672198 + Int32.ofInt 1 := ⟨_, rfl⟩
            have ez672223 : z672223.toInt = g672198.toInt + 1 := gI_inc hz672223 (by decide) bg672198' (by decide) (by decide)
            have bz672223 : gB z672223 1 16777215 := ⟨by omega, by omega⟩
            refine G_iinc (L' := [(3, .int z672223), (2, .int z672222), (1, .int o672010), (0, .ref q671863)]) z672223 1 dr_cX17_operation_64 rfl hz672223.symm (Nat.le_of_ble_eq_true rfl) rfl ?_
            refine G_goto 40 dr_cX17_operation_67 (by decide +kernel) ?_
            exact ih40_672201 z672223 z672222 (gB_w bz672223 (by decide) (by decide)) (by have qa0 : Int32.toInt 0 = 0 := (by decide); have qa1 : Int32.toInt 1 = 1 := (by decide); first | exact opI_st (d := 1) x672200 (by omega) (by omega) (by omega) x672215 (Or.inl ⟨by omega, rfl⟩) | exact opI_st (d := 0) x672200 (by omega) (by omega) (by omega) x672215 (Or.inr ⟨by omega, rfl⟩)) (by have qa0 : Int32.toInt 0 = 0 := (by decide); omega) (fun k e1 ht => kt40_672201 k e1 (fun R c1 c2 c3 => c3 g672198 g672199 o672214 z672222 z672223 k e1 bg672198 r672206 bo672214 ht672216 r672221 ez672222 ez672223 (ht R c1 c2 c3))) (by have qa0 : Int32.toInt 0 = 0 := (by decide); omega)
    exact hlp40_672201 (((16777216 : Int) - 0).toNat + 1) 0 1 (gB_w (gBl (show Int32.toInt 0 = 0 by decide)) (by decide) (by decide)) opI_0 (by have qa0 : Int32.toInt 0 = 0 := (by decide); have qa1 : Int32.toInt 1 = 1 := (by decide); omega) (fun k e1 ht => ht) (Nat.lt_succ_self _)
  · have r672224 : o672010.toInt < 0 := gj_nleL hc672014 (show Int32.toInt 0 = 0 by decide)
    have bo672010' : gB o672010 (-2147483646) (-1) := ⟨by omega, by omega⟩
    refine G_iconst 0 dr_cX17_operation_34 (by decide +kernel) ?_
    exact G_iretA dr_cX17_operation_35 rfl (Nat.le_of_ble_eq_true rfl) (show 20 + (o671956.toInt.toNat + 4) + 0 ≤ 64 by omega) ⟨P671982, F671983, 0, rfl, rfl, hsb672000, hfr672003, he672001, he672002, (Nat.le_of_ble_eq_true rfl), (by omega), (gB_w (gBl (show Int32.toInt 0 = 0 by decide)) (by decide) (by decide)), (by have qa0 : Int32.toInt 0 = 0 := (by decide); omega), (by have qa0 : Int32.toInt 0 = 0 := (by decide); omega), (fun R c1 c2 => c2 o671917 f671918 o671936 f671937 o671956 f671957 n671977 f671978 o672010 bo671917 ht671922 bo671936 ht671941 bo671956 ht671961 ht671981 bo672010 ht672013 r672224)⟩
/- tr_RArrays_copyOf4: a.2.[] -/
def tr_RArrays_copyOf4 (a1 : Int32) (a0_v : Nat → Int32) (a0_n : Nat) (o1 : Nat → Int32) : Prop := ∀ R : (Nat → Int32) → Prop,
  (∀ (x1 : Int32) (x2 : Int32) (x3 : Int32) (x4 : Nat → Int32), x1.toInt = (a0_n : Nat) → a1.toInt ≠ x1.toInt → x2.toInt = (a0_n : Nat) → (x2.toInt ≥ x3.toInt ∧ a1.toInt ≥ x3.toInt ∧ (x3.toInt = x2.toInt ∨ x3.toInt = a1.toInt)) → (x4 = va_cpy a0_v (fun _ => 0) (0 : Int32).toNatClampNeg (0 : Int32).toNatClampNeg x3.toNatClampNeg) → R x4) →
  R o1
