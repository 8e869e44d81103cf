theorem dr_cX14_breaks_0 : decode cX14_breaks 0 = .ok (.aload_n 0, 1) := by decide +kernel
theorem dr_cX14_breaks_1 : decode cX14_breaks 1 = .ok (.getfield 17, 3) := by decide +kernel
theorem wr_9_44 : (Jvm.Cond.fieldLink "SpillForgeModel$Reader" (17 : Nat) "SpillForgeModel$Reader" "rulePlace" "I") ∈ gw := gw_9 44 rfl rfl
theorem dr_cX14_breaks_4 : decode cX14_breaks 4 = .ok (.ifCond .lt 27, 3) := by decide +kernel
theorem dr_cX14_breaks_31 : decode cX14_breaks 31 = .ok (.aload_n 0, 1) := by decide +kernel
theorem dr_cX14_breaks_32 : decode cX14_breaks 32 = .ok (.iload_n 2, 1) := by decide +kernel
theorem dr_cX14_breaks_33 : decode cX14_breaks 33 = .ok (.putfield 17, 3) := by decide +kernel
theorem dr_cX14_breaks_36 : decode cX14_breaks 36 = .ok (.aload_n 0, 1) := by decide +kernel
theorem dr_cX14_breaks_37 : decode cX14_breaks 37 = .ok (.iload_n 1, 1) := by decide +kernel
theorem dr_cX14_breaks_38 : decode cX14_breaks 38 = .ok (.putfield 140, 3) := by decide +kernel
theorem wr_9_46 : (Jvm.Cond.fieldLink "SpillForgeModel$Reader" (140 : Nat) "SpillForgeModel$Reader" "rule" "I") ∈ gw := gw_9 46 rfl rfl
theorem dr_cX14_breaks_41 : decode cX14_breaks 41 = .ok (.return_, 1) := by decide +kernel
theorem dr_cX14_breaks_7 : decode cX14_breaks 7 = .ok (.iload_n 2, 1) := by decide +kernel
theorem dr_cX14_breaks_8 : decode cX14_breaks 8 = .ok (.aload_n 0, 1) := by decide +kernel
theorem dr_cX14_breaks_9 : decode cX14_breaks 9 = .ok (.getfield 17, 3) := by decide +kernel
theorem dr_cX14_breaks_12 : decode cX14_breaks 12 = .ok (.if_icmp .lt 19, 3) := by decide +kernel
theorem dr_cX14_breaks_15 : decode cX14_breaks 15 = .ok (.iload_n 2, 1) := by decide +kernel
theorem dr_cX14_breaks_16 : decode cX14_breaks 16 = .ok (.aload_n 0, 1) := by decide +kernel
theorem dr_cX14_breaks_17 : decode cX14_breaks 17 = .ok (.getfield 17, 3) := by decide +kernel
theorem dr_cX14_breaks_20 : decode cX14_breaks 20 = .ok (.if_icmp .ne 21, 3) := by decide +kernel
theorem dr_cX14_breaks_23 : decode cX14_breaks 23 = .ok (.iload_n 1, 1) := by decide +kernel
theorem dr_cX14_breaks_24 : decode cX14_breaks 24 = .ok (.aload_n 0, 1) := by decide +kernel
theorem dr_cX14_breaks_25 : decode cX14_breaks 25 = .ok (.getfield 140, 3) := by decide +kernel
theorem dr_cX14_breaks_28 : decode cX14_breaks 28 = .ok (.if_icmp .ge 13, 3) := by decide +kernel
theorem dr_cX14_operand_0 : decode cX14_operand 0 = .ok (.aload_n 0, 1) := by decide +kernel
theorem dr_cX14_operand_1 : decode cX14_operand 1 = .ok (.getfield 38, 3) := by decide +kernel
theorem dr_cX14_operand_4 : decode cX14_operand 4 = .ok (.iconst 2, 1) := by decide +kernel
theorem dr_cX14_operand_5 : decode cX14_operand 5 = .ok (.if_icmp .ne 7, 3) := by decide +kernel
theorem dr_cX14_operand_12 : decode cX14_operand 12 = .ok (.iconst 0, 1) := by decide +kernel
theorem dr_cX14_operand_13 : decode cX14_operand 13 = .ok (.istore_n 3, 1) := by decide +kernel
theorem dr_cX14_operand_14 : decode cX14_operand 14 = .ok (.iload_n 3, 1) := by decide +kernel
theorem dr_cX14_operand_15 : decode cX14_operand 15 = .ok (.ifCond .ne 16, 3) := by decide +kernel
theorem dr_cX14_operand_18 : decode cX14_operand 18 = .ok (.aload_n 0, 1) := by decide +kernel
theorem dr_cX14_operand_19 : decode cX14_operand 19 = .ok (.getfield 38, 3) := by decide +kernel
theorem dr_cX14_operand_22 : decode cX14_operand 22 = .ok (.iconst 4, 1) := by decide +kernel
theorem dr_cX14_operand_23 : decode cX14_operand 23 = .ok (.if_icmp .eq 8, 3) := by decide +kernel
theorem dr_cX14_operand_31 : decode cX14_operand 31 = .ok (.iload_n 2, 1) := by decide +kernel
theorem dr_cX14_operand_32 : decode cX14_operand 32 = .ok (.ifCond .eq 19, 3) := by decide +kernel
theorem dr_cX14_operand_51 : decode cX14_operand 51 = .ok (.aload_n 1, 1) := by decide +kernel
theorem dr_cX14_operand_52 : decode cX14_operand 52 = .ok (.aload_n 0, 1) := by decide +kernel
theorem dr_cX14_operand_53 : decode cX14_operand 53 = .ok (.getfield 80, 3) := by decide +kernel
theorem dr_cX14_operand_56 : decode cX14_operand 56 = .ok (.putfield 214, 3) := by decide +kernel
theorem wr_9_187 : (Jvm.Cond.fieldLink "SpillForgeModel$Reader" (214 : Nat) "SpillForgeModel$Row" "a" "I") ∈ gw := gw_9 187 rfl rfl
theorem dr_cX14_operand_59 : decode cX14_operand 59 = .ok (.aload_n 1, 1) := by decide +kernel
theorem dr_cX14_operand_60 : decode cX14_operand 60 = .ok (.iload_n 3, 1) := by decide +kernel
theorem dr_cX14_operand_61 : decode cX14_operand 61 = .ok (.putfield 217, 3) := by decide +kernel
theorem wr_9_198 : (Jvm.Cond.fieldLink "SpillForgeModel$Reader" (217 : Nat) "SpillForgeModel$Row" "regA" "Z") ∈ gw := gw_9 198 rfl rfl
theorem dr_cX14_operand_64 : decode cX14_operand 64 = .ok (.aload_n 0, 1) := by decide +kernel
theorem dr_cX14_operand_65 : decode cX14_operand 65 = .ok (.invokevirtual 35, 3) := by decide +kernel
theorem dr_cX14_operand_68 : decode cX14_operand 68 = .ok (.return_, 1) := by decide +kernel
theorem dr_cX14_operand_35 : decode cX14_operand 35 = .ok (.aload_n 1, 1) := by decide +kernel
theorem dr_cX14_operand_36 : decode cX14_operand 36 = .ok (.aload_n 0, 1) := by decide +kernel
theorem dr_cX14_operand_37 : decode cX14_operand 37 = .ok (.getfield 80, 3) := by decide +kernel
theorem dr_cX14_operand_40 : decode cX14_operand 40 = .ok (.putfield 205, 3) := by decide +kernel
theorem wr_9_191 : (Jvm.Cond.fieldLink "SpillForgeModel$Reader" (205 : Nat) "SpillForgeModel$Row" "b" "I") ∈ gw := gw_9 191 rfl rfl
theorem dr_cX14_operand_43 : decode cX14_operand 43 = .ok (.aload_n 1, 1) := by decide +kernel
theorem dr_cX14_operand_44 : decode cX14_operand 44 = .ok (.iload_n 3, 1) := by decide +kernel
theorem dr_cX14_operand_45 : decode cX14_operand 45 = .ok (.putfield 210, 3) := by decide +kernel
theorem wr_9_201 : (Jvm.Cond.fieldLink "SpillForgeModel$Reader" (210 : Nat) "SpillForgeModel$Row" "regB" "Z") ∈ gw := gw_9 201 rfl rfl
theorem dr_cX14_operand_48 : decode cX14_operand 48 = .ok (.goto 16, 3) := by decide +kernel
theorem dr_cX14_operand_26 : decode cX14_operand 26 = .ok (.aload_n 0, 1) := by decide +kernel
theorem dr_cX14_operand_27 : decode cX14_operand 27 = .ok (.invokevirtual 136, 3) := by decide +kernel
theorem dr_cX14_operand_30 : decode cX14_operand 30 = .ok (.athrow, 1) := by decide +kernel
theorem dr_cX14_operand_8 : decode cX14_operand 8 = .ok (.iconst 1, 1) := by decide +kernel
theorem dr_cX14_operand_9 : decode cX14_operand 9 = .ok (.goto 4, 3) := by decide +kernel
theorem dr_cX17_operation_0 : decode cX17_operation 0 = .ok (.ldc 3, 2) := by decide +kernel
theorem dr_cX17_operation_2 : decode cX17_operation 2 = .ok (.new 5, 3) := by decide +kernel
theorem wr_7_43 : (Jvm.Cond.classLink "SpillForgeModel" (5 : Nat) "java/lang/StringBuilder") ∈ gw := gw_7 43 rfl rfl
theorem dr_cX17_operation_5 : decode cX17_operation 5 = .ok (.dup, 1) := by decide +kernel
theorem dr_cX17_operation_6 : decode cX17_operation 6 = .ok (.invokespecial 7, 3) := by decide +kernel
theorem wr_7_45 : (Jvm.Cond.methodLink "SpillForgeModel" (7 : Nat) ({ cls := "java/lang/StringBuilder", name := "<init>", desc := "()V" } : Jvm.MethodName)) ∈ gw := gw_7 45 rfl rfl
theorem dr_cX17_operation_9 : decode cX17_operation 9 = .ok (.ldc 11, 2) := by decide +kernel
theorem dr_cX17_operation_11 : decode cX17_operation 11 = .ok (.invokevirtual 13, 3) := by decide +kernel
theorem wr_10_100 : (Jvm.Cond.methodLink "SpillForgeModel" (13 : Nat) ({ cls := "java/lang/StringBuilder", name := "append", desc := "(Ljava/lang/String;)Ljava/lang/StringBuilder;" } : Jvm.MethodName)) ∈ gw := gw_10 100 rfl rfl
theorem dr_cX17_operation_14 : decode cX17_operation 14 = .ok (.aload_n 0, 1) := by decide +kernel
theorem dr_cX17_operation_15 : decode cX17_operation 15 = .ok (.invokevirtual 13, 3) := by decide +kernel
theorem dr_cX17_operation_18 : decode cX17_operation 18 = .ok (.ldc 11, 2) := by decide +kernel
theorem dr_cX17_operation_20 : decode cX17_operation 20 = .ok (.invokevirtual 13, 3) := by decide +kernel
theorem dr_cX17_operation_23 : decode cX17_operation 23 = .ok (.invokevirtual 17, 3) := by decide +kernel
theorem wr_10_101 : (Jvm.Cond.methodLink "SpillForgeModel" (17 : Nat) ({ cls := "java/lang/StringBuilder", name := "toString", desc := "()Ljava/lang/String;" } : Jvm.MethodName)) ∈ gw := gw_10 101 rfl rfl
theorem dr_cX17_operation_26 : decode cX17_operation 26 = .ok (.invokevirtual 21, 3) := by decide +kernel
theorem wr_10_102 : (Jvm.Cond.methodLink "SpillForgeModel" (21 : Nat) ({ cls := "java/lang/String", name := "indexOf", desc := "(Ljava/lang/String;)I" } : Jvm.MethodName)) ∈ gw := gw_10 102 rfl rfl
theorem dr_cX17_operation_29 : decode cX17_operation 29 = .ok (.istore_n 1, 1) := by decide +kernel
theorem dr_cX17_operation_30 : decode cX17_operation 30 = .ok (.iload_n 1, 1) := by decide +kernel
theorem dr_cX17_operation_31 : decode cX17_operation 31 = .ok (.ifCond .ge 5, 3) := by decide +kernel
theorem dr_cX17_operation_36 : decode cX17_operation 36 = .ok (.iconst 1, 1) := by decide +kernel
theorem dr_cX17_operation_37 : decode cX17_operation 37 = .ok (.istore_n 2, 1) := by decide +kernel
theorem dr_cX17_operation_38 : decode cX17_operation 38 = .ok (.iconst 0, 1) := by decide +kernel
theorem dr_cX17_operation_39 : decode cX17_operation 39 = .ok (.istore_n 3, 1) := by decide +kernel
theorem dr_cX17_operation_40 : decode cX17_operation 40 = .ok (.iload_n 3, 1) := by decide +kernel
theorem dr_cX17_operation_41 : decode cX17_operation 41 = .ok (.iload_n 1, 1) := by decide +kernel
theorem dr_cX17_operation_42 : decode cX17_operation 42 = .ok (.if_icmp .ge 28, 3) := by decide +kernel
theorem dr_cX17_operation_70 : decode cX17_operation 70 = .ok (.iload_n 2, 1) := by decide +kernel
theorem dr_cX17_operation_71 : decode cX17_operation 71 = .ok (.ireturn, 1) := by decide +kernel
theorem dr_cX17_operation_45 : decode cX17_operation 45 = .ok (.iload_n 2, 1) := by decide +kernel
theorem dr_cX17_operation_46 : decode cX17_operation 46 = .ok (.ldc 3, 2) := by decide +kernel
theorem dr_cX17_operation_48 : decode cX17_operation 48 = .ok (.iload_n 3, 1) := by decide +kernel
theorem dr_cX17_operation_49 : decode cX17_operation 49 = .ok (.invokevirtual 27, 3) := by decide +kernel
theorem wr_10_103 : (Jvm.Cond.methodLink "SpillForgeModel" (27 : Nat) ({ cls := "java/lang/String", name := "charAt", desc := "(I)C" } : Jvm.MethodName)) ∈ gw := gw_10 103 rfl rfl
theorem wr_3_70 : (Jvm.Cond.code ({ cls := "java/lang/String", name := "charAt", desc := "(I)C" } : Jvm.MethodName) prog_34_method_56_code (2 : Nat) (Option.some Jvm.ClassFile.FieldType.char)) ∈ gw := gw_3 70 rfl rfl
theorem wr_3_68 : (Jvm.Cond.instanceMethod ({ cls := "java/lang/String", name := "charAt", desc := "(I)C" } : Jvm.MethodName)) ∈ gw := gw_3 68 rfl rfl
theorem wr_3_69 : (Jvm.Cond.selects "java/lang/String" ({ cls := "java/lang/String", name := "charAt", desc := "(I)C" } : Jvm.MethodName) ({ cls := "java/lang/String", name := "charAt", desc := "(I)C" } : Jvm.MethodName)) ∈ gw := gw_3 69 rfl rfl
theorem dr_cX17_operation_52 : decode cX17_operation 52 = .ok (.bipush 32, 2) := by decide +kernel
theorem dr_cX17_operation_54 : decode cX17_operation 54 = .ok (.if_icmp .ne 7, 3) := by decide +kernel
theorem dr_cX17_operation_61 : decode cX17_operation 61 = .ok (.iconst 0, 1) := by decide +kernel
theorem dr_cX17_operation_62 : decode cX17_operation 62 = .ok (.iadd, 1) := by decide +kernel
theorem dr_cX17_operation_63 : decode cX17_operation 63 = .ok (.istore_n 2, 1) := by decide +kernel
theorem dr_cX17_operation_64 : decode cX17_operation 64 = .ok (.iinc 3 1, 3) := by decide +kernel
theorem dr_cX17_operation_67 : decode cX17_operation 67 = .ok (.goto (-27), 3) := by decide +kernel
theorem dr_cX17_operation_57 : decode cX17_operation 57 = .ok (.iconst 1, 1) := by decide +kernel
theorem dr_cX17_operation_58 : decode cX17_operation 58 = .ok (.goto 4, 3) := by decide +kernel
theorem dr_cX17_operation_34 : decode cX17_operation 34 = .ok (.iconst 0, 1) := by decide +kernel
theorem dr_cX17_operation_35 : decode cX17_operation 35 = .ok (.ireturn, 1) := by decide +kernel
abbrev ky_655874_Reader_breaks : gKey := (cX14_breaks, 3, "SpillForgeModel$Reader", none, [], "breaks", fun _ _ => True)
def pp_655874_Reader_breaks (D : va_G) (I : FieldType → ClassId) (P655854 : List Nat) (F655855 : Nat → va_E) (q655856 : Nat) (q655857 : Nat) (p655858 : Int32) (p655859 : Int32) (p655860 : Int32) (p655861 : Int32) (p655862 : Int32) (p655863 : Int32) (p655864 : Int32) (p655865 : Int32) (qo655866 : Nat) (p655867 : Int32) (p655868 : Int32) (p655869 : Int32) (qo655870 : Nat) (qo655871 : Nat) (p655872 : Int32) (f655873 : Nat → Int32) : Option Value → va_W → Nat → Nat → Prop := fun r w dc ds => ∃ (F655926 : Nat → va_E) (o655923 : Int32) (o655924 : Int32), r = none ∧ w = va_pl P655854 F655926 ∧ rFr [q655856] P655854 F655855 F655926 ∧ F655926 q655856 = .inr (19, [.ref q655857, .int p655860, .int p655861, .int p655862, .int p655863, .int p655864, .int p655865, .ref qo655866, .int o655923, .int o655924, .int p655869, .ref qo655870, .ref qo655871, .int p655872]) ∧ F655926 q655857 = .inl (I .byte, 8192, .inl f655873) ∧ dc ≤ 0 ∧ ds ≤ 0 ∧ gB o655923 0 8192 ∧ gB o655924 0 4
set_option maxRecDepth 100000 in
set_option maxHeartbeats 4000000 in
theorem cp_655874_Reader_breaks (l : Launch) (hl0 : l.stackTraces = false) (D : va_G) (I : FieldType → ClassId) (P655854 : List Nat) (F655855 : Nat → va_E) (q655856 : Nat) (q655857 : Nat) (p655858 : Int32) (p655859 : Int32) (p655860 : Int32) (p655861 : Int32) (p655862 : Int32) (p655863 : Int32) (p655864 : Int32) (p655865 : Int32) (qo655866 : Nat) (p655867 : Int32) (p655868 : Int32) (p655869 : Int32) (qo655870 : Nat) (qo655871 : Nat) (p655872 : Int32) (f655873 : Nat → Int32) (hmq655856 : q655856 ∈ P655854) (hmq655857 : q655857 ∈ P655854) (heq655856 : F655855 q655856 = .inr (19, [.ref q655857, .int p655860, .int p655861, .int p655862, .int p655863, .int p655864, .int p655865, .ref qo655866, .int p655867, .int p655868, .int p655869, .ref qo655870, .ref qo655871, .int p655872])) (heq655857 : F655855 q655857 = .inl (I .byte, 8192, .inl f655873)) (bp655858 : gB p655858 0 4) (bp655859 : gB p655859 0 8192) (bp655860 : gB p655860 0 8192) (bp655861 : gB p655861 0 8192) (bp655862 : gB p655862 0 6) (bp655863 : gB p655863 0 8192) (bp655865 : gB p655865 0 6) (bp655867 : gB p655867 (-1) 8192) (bp655868 : gB p655868 0 4) (bp655869 : gB p655869 0 1000000) (bp655872 : gB p655872 0 1000000) (bf655873 : gF f655873 (-128) 127) : CtA (gV D I) l yX14_breaks cX14_breaks 3 none 0 0 0 0 [.ref q655856, .int p655858, .int p655859] (va_pl P655854 F655855) (pp_655874_Reader_breaks D I P655854 F655855 q655856 q655857 p655858 p655859 p655860 p655861 p655862 p655863 p655864 p655865 qo655866 p655867 p655868 p655869 qo655870 qo655871 p655872 f655873) gNA := by
  refine CtA_of hl0 (by decide) (Nat.le_of_ble_eq_true rfl) ?_
  have bp655864 := gB_any p655864
  refine G_aload_n 0 dr_cX14_breaks_0 rfl ?_
  refine Gp_get 8 hmq655856 heq655856 dr_cX14_breaks_1 (gk_X14 D I) (Nat.le_of_ble_eq_true rfl) wr_9_44 rfl ?_
  refine G_if_lt 31 dr_cX14_breaks_4 (by decide +kernel) (fun hc655875 => ?_) (fun hc655875 => ?_)
  · have r655876 : p655867.toInt < 0 := gj_lt hc655875 (show Int32.toInt 0 = 0 by decide)
    have bp655867' : gB p655867 (-1) (-1) := ⟨by omega, by omega⟩
    refine G_aload_n 0 dr_cX14_breaks_31 rfl ?_
    refine G_iload_n 2 dr_cX14_breaks_32 rfl ?_
    refine Gp_put 8 hmq655856 heq655856 dr_cX14_breaks_33 (gk_X14 D I) (Nat.le_of_ble_eq_true rfl) wr_9_44 rfl rfl rfl (Nat.le_of_ble_eq_true rfl) (fun F655877 e655878 n655879 => ?_)
    have he655880 : F655877 q655857 = .inl (I .byte, 8192, .inl f655873) := (n655879 q655857 (rn_ao heq655857 heq655856)).trans heq655857
    have he655881 : F655877 q655856 = .inr (19, [.ref q655857, .int p655860, .int p655861, .int p655862, .int p655863, .int p655864, .int p655865, .ref qo655866, .int p655859, .int p655868, .int p655869, .ref qo655870, .ref qo655871, .int p655872]) := e655878
    have hfr655882 : rFr [q655856] P655854 F655855 F655877 := rFr_put (rFr_rf (W := []) (P := P655854) (F := F655855)) n655879
    refine G_aload_n 0 dr_cX14_breaks_36 rfl ?_
    refine G_iload_n 1 dr_cX14_breaks_37 rfl ?_
    refine Gp_put 9 hmq655856 he655881 dr_cX14_breaks_38 (gk_X14 D I) (Nat.le_of_ble_eq_true rfl) wr_9_46 rfl rfl rfl (Nat.le_of_ble_eq_true rfl) (fun F655883 e655884 n655885 => ?_)
    have he655886 : F655883 q655857 = .inl (I .byte, 8192, .inl f655873) := (n655885 q655857 (rn_ao he655880 he655881)).trans he655880
    have he655887 : F655883 q655856 = .inr (19, [.ref q655857, .int p655860, .int p655861, .int p655862, .int p655863, .int p655864, .int p655865, .ref qo655866, .int p655859, .int p655858, .int p655869, .ref qo655870, .ref qo655871, .int p655872]) := e655884
    have hfr655888 : rFr [q655856] P655854 F655855 F655883 := rFr_put' List.mem_cons_self hfr655882 n655885
    exact G_vretA dr_cX14_breaks_41 rfl (Nat.le_of_ble_eq_true rfl) (Nat.le_of_ble_eq_true rfl) ⟨F655883, p655859, p655858, rfl, rfl, hfr655888, he655887, he655886, (Nat.le_of_ble_eq_true rfl), (Nat.le_of_ble_eq_true rfl), bp655859, bp655858⟩
  · have r655889 : 0 ≤ p655867.toInt := gj_nlt hc655875 (show Int32.toInt 0 = 0 by decide)
    have bp655867' : gB p655867 0 8192 := ⟨by omega, by omega⟩
    refine G_iload_n 2 dr_cX14_breaks_7 rfl ?_
    refine G_aload_n 0 dr_cX14_breaks_8 rfl ?_
    refine Gp_get 8 hmq655856 heq655856 dr_cX14_breaks_9 (gk_X14 D I) (Nat.le_of_ble_eq_true rfl) wr_9_44 rfl ?_
    refine G_icmp_lt 31 dr_cX14_breaks_12 (by decide +kernel) (fun hc655890 => ?_) (fun hc655890 => ?_)
    · have r655891 : p655859.toInt < p655867.toInt := gC_lt hc655890
      have bp655859' : gB p655859 0 8191 := ⟨by omega, by omega⟩
      have bp655867'' : gB p655867 1 8192 := ⟨by omega, by omega⟩
      refine G_aload_n 0 dr_cX14_breaks_31 rfl ?_
      refine G_iload_n 2 dr_cX14_breaks_32 rfl ?_
      refine Gp_put 8 hmq655856 heq655856 dr_cX14_breaks_33 (gk_X14 D I) (Nat.le_of_ble_eq_true rfl) wr_9_44 rfl rfl rfl (Nat.le_of_ble_eq_true rfl) (fun F655892 e655893 n655894 => ?_)
      have he655895 : F655892 q655857 = .inl (I .byte, 8192, .inl f655873) := (n655894 q655857 (rn_ao heq655857 heq655856)).trans heq655857
      have he655896 : F655892 q655856 = .inr (19, [.ref q655857, .int p655860, .int p655861, .int p655862, .int p655863, .int p655864, .int p655865, .ref qo655866, .int p655859, .int p655868, .int p655869, .ref qo655870, .ref qo655871, .int p655872]) := e655893
      have hfr655897 : rFr [q655856] P655854 F655855 F655892 := rFr_put (rFr_rf (W := []) (P := P655854) (F := F655855)) n655894
      refine G_aload_n 0 dr_cX14_breaks_36 rfl ?_
      refine G_iload_n 1 dr_cX14_breaks_37 rfl ?_
      refine Gp_put 9 hmq655856 he655896 dr_cX14_breaks_38 (gk_X14 D I) (Nat.le_of_ble_eq_true rfl) wr_9_46 rfl rfl rfl (Nat.le_of_ble_eq_true rfl) (fun F655898 e655899 n655900 => ?_)
      have he655901 : F655898 q655857 = .inl (I .byte, 8192, .inl f655873) := (n655900 q655857 (rn_ao he655895 he655896)).trans he655895
      have he655902 : F655898 q655856 = .inr (19, [.ref q655857, .int p655860, .int p655861, .int p655862, .int p655863, .int p655864, .int p655865, .ref qo655866, .int p655859, .int p655858, .int p655869, .ref qo655870, .ref qo655871, .int p655872]) := e655899
      have hfr655903 : rFr [q655856] P655854 F655855 F655898 := rFr_put' List.mem_cons_self hfr655897 n655900
      exact G_vretA dr_cX14_breaks_41 rfl (Nat.le_of_ble_eq_true rfl) (Nat.le_of_ble_eq_true rfl) ⟨F655898, p655859, p655858, rfl, rfl, hfr655903, he655902, he655901, (Nat.le_of_ble_eq_true rfl), (Nat.le_of_ble_eq_true rfl), (gB_w bp655859' (by decide) (by decide)), bp655858⟩
    · have r655904 : p655867.toInt ≤ p655859.toInt := gC_nlt hc655890
      refine G_iload_n 2 dr_cX14_breaks_15 rfl ?_
      refine G_aload_n 0 dr_cX14_breaks_16 rfl ?_
      refine Gp_get 8 hmq655856 heq655856 dr_cX14_breaks_17 (gk_X14 D I) (Nat.le_of_ble_eq_true rfl) wr_9_44 rfl ?_
      refine G_icmp_ne 41 dr_cX14_breaks_20 (by decide +kernel) (fun hc655905 => ?_) (fun hc655905 => ?_)
      · have r655906 : p655859.toInt ≠ p655867.toInt := gC_ne hc655905
        exact G_vretA dr_cX14_breaks_41 rfl (Nat.le_of_ble_eq_true rfl) (Nat.le_of_ble_eq_true rfl) ⟨F655855, p655867, p655868, rfl, rfl, (rFr_v (rFr_rf (W := []) (P := P655854) (F := F655855)) (fun b hn => nm_n)), heq655856, heq655857, (Nat.le_of_ble_eq_true rfl), (Nat.le_of_ble_eq_true rfl), bp655867', bp655868⟩
      · have r655907 : p655859.toInt = p655867.toInt := gC_eq hc655905
        refine G_iload_n 1 dr_cX14_breaks_23 rfl ?_
        refine G_aload_n 0 dr_cX14_breaks_24 rfl ?_
        refine Gp_get 9 hmq655856 heq655856 dr_cX14_breaks_25 (gk_X14 D I) (Nat.le_of_ble_eq_true rfl) wr_9_46 rfl ?_
        refine G_icmp_ge 41 dr_cX14_breaks_28 (by decide +kernel) (fun hc655908 => ?_) (fun hc655908 => ?_)
        · have r655909 : p655868.toInt ≤ p655858.toInt := gC_le hc655908
          exact G_vretA dr_cX14_breaks_41 rfl (Nat.le_of_ble_eq_true rfl) (Nat.le_of_ble_eq_true rfl) ⟨F655855, p655867, p655868, rfl, rfl, (rFr_v (rFr_rf (W := []) (P := P655854) (F := F655855)) (fun b hn => nm_n)), heq655856, heq655857, (Nat.le_of_ble_eq_true rfl), (Nat.le_of_ble_eq_true rfl), bp655867', bp655868⟩
        · have r655910 : p655858.toInt < p655868.toInt := gC_nle hc655908
          have bp655858' : gB p655858 0 3 := ⟨by omega, by omega⟩
          have bp655868' : gB p655868 1 4 := ⟨by omega, by omega⟩
          refine G_aload_n 0 dr_cX14_breaks_31 rfl ?_
          refine G_iload_n 2 dr_cX14_breaks_32 rfl ?_
          refine Gp_put 8 hmq655856 heq655856 dr_cX14_breaks_33 (gk_X14 D I) (Nat.le_of_ble_eq_true rfl) wr_9_44 rfl rfl rfl (Nat.le_of_ble_eq_true rfl) (fun F655911 e655912 n655913 => ?_)
          have he655914 : F655911 q655857 = .inl (I .byte, 8192, .inl f655873) := (n655913 q655857 (rn_ao heq655857 heq655856)).trans heq655857
          have he655915 : F655911 q655856 = .inr (19, [.ref q655857, .int p655860, .int p655861, .int p655862, .int p655863, .int p655864, .int p655865, .ref qo655866, .int p655859, .int p655868, .int p655869, .ref qo655870, .ref qo655871, .int p655872]) := e655912
          have hfr655916 : rFr [q655856] P655854 F655855 F655911 := rFr_put (rFr_rf (W := []) (P := P655854) (F := F655855)) n655913
          refine G_aload_n 0 dr_cX14_breaks_36 rfl ?_
          refine G_iload_n 1 dr_cX14_breaks_37 rfl ?_
          refine Gp_put 9 hmq655856 he655915 dr_cX14_breaks_38 (gk_X14 D I) (Nat.le_of_ble_eq_true rfl) wr_9_46 rfl rfl rfl (Nat.le_of_ble_eq_true rfl) (fun F655917 e655918 n655919 => ?_)
          have he655920 : F655917 q655857 = .inl (I .byte, 8192, .inl f655873) := (n655919 q655857 (rn_ao he655914 he655915)).trans he655914
          have he655921 : F655917 q655856 = .inr (19, [.ref q655857, .int p655860, .int p655861, .int p655862, .int p655863, .int p655864, .int p655865, .ref qo655866, .int p655859, .int p655858, .int p655869, .ref qo655870, .ref qo655871, .int p655872]) := e655918
          have hfr655922 : rFr [q655856] P655854 F655855 F655917 := rFr_put' List.mem_cons_self hfr655916 n655919
          exact G_vretA dr_cX14_breaks_41 rfl (Nat.le_of_ble_eq_true rfl) (Nat.le_of_ble_eq_true rfl) ⟨F655917, p655859, p655858, rfl, rfl, hfr655922, he655921, he655920, (Nat.le_of_ble_eq_true rfl), (Nat.le_of_ble_eq_true rfl), bp655859, (gB_w bp655858' (by decide) (by decide))⟩
abbrev ky_655962_Reader_operand : gKey := (cX14_operand, 4, "SpillForgeModel$Reader", none, [], "operand", fun _ _ => True)
def pp_655962_Reader_operand (D : va_G) (I : FieldType → ClassId) (P655927 : List Nat) (F655928 : Nat → va_E) (q655929 : Nat) (q655930 : Nat) (q655931 : Nat) (p655932 : Int32) (p655933 : Int32) (p655934 : Int32) (p655935 : Int32) (p655936 : Int32) (p655937 : Int32) (p655938 : Int32) (qo655939 : Nat) (p655940 : Int32) (p655941 : Int32) (p655942 : Int32) (qo655943 : Nat) (qo655944 : Nat) (p655945 : Int32) (p655946 : Int32) (p655947 : Int32) (p655948 : Int32) (p655949 : Int32) (p655950 : Int32) (p655951 : Int32) (p655952 : Int32) (f655953 : Nat → Int32) : Option Value → va_W → Nat → Nat → Prop := fun r w dc ds => ∃ (P656179 : List Nat) (F656180 : Nat → va_E) (o656170 : Int32) (o656171 : Int32) (o656172 : Int32) (o656173 : Int32) (q656174 : Nat) (o656175 : Int32) (o656176 : Int32) (o656177 : Int32) (o656178 : Int32), r = none ∧ w = va_pl P656179 F656180 ∧ rSub P655927 P656179 ∧ rFr [q655930, q655929] P655927 F655928 F656180 ∧ F656180 q655930 = .inr (20, [.int p655946, .int p655947, .int o656175, .int o656176, .int p655950, .int o656177, .int o656178]) ∧ F656180 q655929 = .inr (19, [.ref q655931, .int p655933, .int o656170, .int o656171, .int o656172, .int o656173, .int p655935, .ref q656174, .int p655940, .int p655941, .int p655942, .ref qo655943, .ref qo655944, .int p655945]) ∧ F656180 q655931 = .inl (I .byte, 8192, .inl f655953) ∧ dc ≤ (16 * (o656170.toInt - p655934.toInt)).toNat ∧ ds ≤ (256 * (o656170.toInt - p655934.toInt)).toNat ∧ gB o656170 0 8192 ∧ gB o656171 0 6 ∧ gB o656172 0 8192 ∧ gB o656177 0 1 ∧ gB o656178 0 1 ∧ p655934.toInt ≤ o656170.toInt ∧ prP o656171 p655934 o656170 ∧ o656170.toInt ≤ p655933.toInt ∧ tP I P656179 F656180 o656171 q656174 qo655944 qo655943 ∧ vP o656171 o656173 ∧ rwP o656177 o656175 ∧ rwP o656178 o656176
def xp_655962_Reader_operand (D : va_G) (I : FieldType → ClassId) (P655927 : List Nat) (F655928 : Nat → va_E) (q655929 : Nat) (q655930 : Nat) (q655931 : Nat) (p655932 : Int32) (p655933 : Int32) (p655934 : Int32) (p655935 : Int32) (p655936 : Int32) (p655937 : Int32) (p655938 : Int32) (qo655939 : Nat) (p655940 : Int32) (p655941 : Int32) (p655942 : Int32) (qo655943 : Nat) (qo655944 : Nat) (p655945 : Int32) (p655946 : Int32) (p655947 : Int32) (p655948 : Int32) (p655949 : Int32) (p655950 : Int32) (p655951 : Int32) (p655952 : Int32) (f655953 : Nat → Int32) : String → Nat → va_W → Nat → Nat → Prop := fun E q w dc ds => ∃ (P656182 : List Nat) (F656181 : Nat → va_E), E = "SpillForgeModel$Wrong" ∧ w = va_pl P656182 F656181 ∧ rSub P655927 P656182 ∧ rFr [] P655927 F655928 F656181 ∧ q ∈ P656182 ∧ q ∉ P655927 ∧ wrF F656181 q ∧ dc ≤ (16 * (p655933.toInt - p655934.toInt)).toNat + 1 ∧ ds ≤ (256 * (p655933.toInt - p655934.toInt)).toNat + 7 ∧ rkR (F656181 q655930)
set_option maxRecDepth 100000 in
set_option maxHeartbeats 4000000 in
theorem cp_655962_Reader_operand (l : Launch) (hl0 : l.stackTraces = false) (D : va_G) (I : FieldType → ClassId) (P655927 : List Nat) (F655928 : Nat → va_E) (q655929 : Nat) (q655930 : Nat) (q655931 : Nat) (p655932 : Int32) (p655933 : Int32) (p655934 : Int32) (p655935 : Int32) (p655936 : Int32) (p655937 : Int32) (p655938 : Int32) (qo655939 : Nat) (p655940 : Int32) (p655941 : Int32) (p655942 : Int32) (qo655943 : Nat) (qo655944 : Nat) (p655945 : Int32) (p655946 : Int32) (p655947 : Int32) (p655948 : Int32) (p655949 : Int32) (p655950 : Int32) (p655951 : Int32) (p655952 : Int32) (f655953 : Nat → Int32) (hmq655929 : q655929 ∈ P655927) (hmq655930 : q655930 ∈ P655927) (hmq655931 : q655931 ∈ P655927) (heq655929 : F655928 q655929 = .inr (19, [.ref q655931, .int p655933, .int p655934, .int p655935, .int p655936, .int p655937, .int p655938, .ref qo655939, .int p655940, .int p655941, .int p655942, .ref qo655943, .ref qo655944, .int p655945])) (heq655930 : F655928 q655930 = .inr (20, [.int p655946, .int p655947, .int p655948, .int p655949, .int p655950, .int p655951, .int p655952])) (heq655931 : F655928 q655931 = .inl (I .byte, 8192, .inl f655953)) (bp655932 : gB p655932 0 1) (bp655933 : gB p655933 0 8192) (bp655934 : gB p655934 0 8192) (bp655935 : gB p655935 0 6) (bp655936 : gB p655936 0 8192) (bp655938 : gB p655938 0 6) (bp655940 : gB p655940 (-1) 8192) (bp655941 : gB p655941 0 4) (bp655942 : gB p655942 0 1000000) (bp655945 : gB p655945 0 1000000) (bp655946 : gB p655946 0 32) (bp655947 : gB p655947 0 1999) (bp655950 : gB p655950 0 1999) (bp655951 : gB p655951 0 1) (bp655952 : gB p655952 0 1) (bf655953 : gF f655953 (-128) 127) (x655954 : p655934.toInt ≤ p655933.toInt) (x655955 : qo655944 ∈ P655927) (x655956 : qo655943 ∈ P655927) (x655957 : tP I P655927 F655928 p655935 qo655939 qo655944 qo655943) (x655958 : vP p655935 p655937) (x655959 : rwP p655951 p655948) (x655960 : rwP p655952 p655949) (x655961 : opP p655946) : CtA (gV D I) l yX14_operand cX14_operand 4 none 8 177 ((16 * (p655933.toInt - p655934.toInt)).toNat + 1) ((256 * (p655933.toInt - p655934.toInt)).toNat + 7) [.ref q655929, .ref q655930, .int p655932] (va_pl P655927 F655928) (pp_655962_Reader_operand D I P655927 F655928 q655929 q655930 q655931 p655932 p655933 p655934 p655935 p655936 p655937 p655938 qo655939 p655940 p655941 p655942 qo655943 qo655944 p655945 p655946 p655947 p655948 p655949 p655950 p655951 p655952 f655953) (xp_655962_Reader_operand D I P655927 F655928 q655929 q655930 q655931 p655932 p655933 p655934 p655935 p655936 p655937 p655938 qo655939 p655940 p655941 p655942 qo655943 qo655944 p655945 p655946 p655947 p655948 p655949 p655950 p655951 p655952 f655953) := by
  refine CtA_of hl0 (by decide) (Nat.le_of_ble_eq_true rfl) ?_
  have bp655937 := gB_any p655937
  have bp655948 := gB_any p655948
  have bp655949 := gB_any p655949
  refine G_aload_n 0 dr_cX14_operand_0 rfl ?_
  refine Gp_get 3 hmq655929 heq655929 dr_cX14_operand_1 (gk_X14 D I) (Nat.le_of_ble_eq_true rfl) wr_9_39 rfl ?_
  refine G_iconst 2 dr_cX14_operand_4 (by decide +kernel) ?_
  refine G_icmp_ne 12 dr_cX14_operand_5 (by decide +kernel) (fun hc655963 => ?_) (fun hc655963 => ?_)
  · have r655964 : p655935.toInt ≠ 2 := gj_neq hc655963 (show Int32.toInt 2 = 2 by decide)
    refine G_iconst 0 dr_cX14_operand_12 (by decide +kernel) ?_
    refine G_istore_n (L' := [(3, .int 0), (0, .ref q655929), (1, .ref q655930), (2, .int p655932)]) dr_cX14_operand_13 (Nat.le_of_ble_eq_true rfl) rfl ?_
    refine G_iload_n 0 dr_cX14_operand_14 rfl ?_
    refine G_if_ne 31 dr_cX14_operand_15 (by decide +kernel) (fun hc => absurd hc (by decide)) (fun _ => ?_)
    refine G_aload_n 1 dr_cX14_operand_18 rfl ?_
    refine Gp_get 3 hmq655929 heq655929 dr_cX14_operand_19 (gk_X14 D I) (Nat.le_of_ble_eq_true rfl) wr_9_39 rfl ?_
    refine G_iconst 4 dr_cX14_operand_22 (by decide +kernel) ?_
    refine G_icmp_eq 31 dr_cX14_operand_23 (by decide +kernel) (fun hc655965 => ?_) (fun hc655965 => ?_)
    · have r655966 : p655935.toInt = 4 := gj_eq hc655965 (show Int32.toInt 4 = 4 by decide)
      have bp655935' : gB p655935 4 4 := ⟨by omega, by omega⟩
      refine G_iload_n 3 dr_cX14_operand_31 rfl ?_
      refine G_if_eq 51 dr_cX14_operand_32 (by decide +kernel) (fun hc655967 => ?_) (fun hc655967 => ?_)
      · have r655968 : p655932.toInt = 0 := gj_eq hc655967 (show Int32.toInt 0 = 0 by decide)
        have bp655932' : gB p655932 0 0 := ⟨by omega, by omega⟩
        refine G_aload_n 2 dr_cX14_operand_51 rfl ?_
        refine G_aload_n 1 dr_cX14_operand_52 rfl ?_
        refine Gp_get 5 hmq655929 heq655929 dr_cX14_operand_53 (gk_X14 D I) (Nat.le_of_ble_eq_true rfl) wr_9_41 rfl ?_
        refine Gp_put 2 hmq655930 heq655930 dr_cX14_operand_56 (gk_X15 D I) (Nat.le_of_ble_eq_true rfl) wr_9_187 rfl rfl rfl (Nat.le_of_ble_eq_true rfl) (fun F655969 e655970 n655971 => ?_)
        have he655972 : F655969 q655929 = .inr (19, [.ref q655931, .int p655933, .int p655934, .int p655935, .int p655936, .int p655937, .int p655938, .ref qo655939, .int p655940, .int p655941, .int p655942, .ref qo655943, .ref qo655944, .int p655945]) := (n655971 q655929 (rn_oo heq655929 heq655930 (by decide))).trans heq655929
        have he655973 : F655969 q655931 = .inl (I .byte, 8192, .inl f655953) := (n655971 q655931 (rn_ao heq655931 heq655930)).trans heq655931
        have he655974 : F655969 q655930 = .inr (20, [.int p655946, .int p655947, .int p655937, .int p655949, .int p655950, .int p655951, .int p655952]) := e655970
        have hfr655975 : rFr [q655930] P655927 F655928 F655969 := rFr_put (rFr_rf (W := []) (P := P655927) (F := F655928)) n655971
        have tp655976 : tP I P655927 F655969 p655935 qo655939 qo655944 qo655943 := tP_put x655957 heq655930 (by decide) n655971
        refine G_aload_n 2 dr_cX14_operand_59 rfl ?_
        refine G_iload_n 0 dr_cX14_operand_60 rfl ?_
        refine Gp_put 5 hmq655930 he655974 dr_cX14_operand_61 (gk_X15 D I) (Nat.le_of_ble_eq_true rfl) wr_9_198 rfl rfl rfl (Nat.le_of_ble_eq_true rfl) (fun F655977 e655978 n655979 => ?_)
        have he655980 : F655977 q655929 = .inr (19, [.ref q655931, .int p655933, .int p655934, .int p655935, .int p655936, .int p655937, .int p655938, .ref qo655939, .int p655940, .int p655941, .int p655942, .ref qo655943, .ref qo655944, .int p655945]) := (n655979 q655929 (rn_oo he655972 he655974 (by decide))).trans he655972
        have he655981 : F655977 q655931 = .inl (I .byte, 8192, .inl f655953) := (n655979 q655931 (rn_ao he655973 he655974)).trans he655973
        have he655982 : F655977 q655930 = .inr (20, [.int p655946, .int p655947, .int p655937, .int p655949, .int p655950, .int 0, .int p655952]) := e655978
        have hfr655983 : rFr [q655930] P655927 F655928 F655977 := rFr_put' List.mem_cons_self hfr655975 n655979
        have tp655984 : tP I P655927 F655977 p655935 qo655939 qo655944 qo655943 := tP_put tp655976 he655974 (by decide) n655979
        refine G_aload_n 1 dr_cX14_operand_64 rfl ?_
        refine Gw_callV (As := []) (gV_ok D I) (cp_653748_Reader_next l hl0 D I P655927 F655977 q655929 q655931 p655933 p655934 p655935 p655936 p655937 p655938 qo655939 p655940 p655941 p655942 qo655943 qo655944 p655945 f655953 hmq655929 hmq655931 he655980 he655981 bp655933 bp655934 (gB_w bp655935' (by decide) (by decide)) bp655936 bp655938 bp655940 bp655941 bp655942 bp655945 bf655953 (by have qa0 : Int32.toInt 0 = 0 := (by decide); omega) x655955 x655956) dr_cX14_operand_65 ⟨wr_7_215, wr_1_32, wr_7_218, by decide, rfl, (Nat.le_of_ble_eq_true rfl), (Nat.le_of_ble_eq_true rfl)⟩ wr_7_217 wr_p_75 hmq655929 he655980 rfl (show 0 + ((16 * (p655933.toInt - p655934.toInt)).toNat) ≤ ((16 * (p655933.toInt - p655934.toInt)).toNat + 1) by first | omega | decide) (show 0 + ((256 * (p655933.toInt - p655934.toInt)).toNat) ≤ ((256 * (p655933.toInt - p655934.toInt)).toNat + 7) by first | omega | decide) (Nat.le_of_ble_eq_true rfl) (fun r655988 w655989 dc655985 ds655986 hp655987 => ?_) (fun _ _ _ _ _ z => z.elim)
        obtain ⟨P656000, F656001, o655990, o655991, o655992, o655993, q655994, rfl, rfl, hsb656002, hfr656003, he656004, he656005, hdc, hds, bo655990, bo655991, bo655992, x655995, x655996, x655997, x655998, x655999⟩ := hp655987
        have hm656006 : q655929 ∈ P656000 := hsb656002 q655929 hmq655929
        have hm656007 : q655930 ∈ P656000 := hsb656002 q655930 hmq655930
        have hm656008 : q655931 ∈ P656000 := hsb656002 q655931 hmq655931
        have hsb656009 : rSub P655927 P656000 := rSub_tr (rSub_rf (P := P655927)) hsb656002
        have he656010 : F656001 q655930 = .inr (20, [.int p655946, .int p655947, .int p655937, .int p655949, .int p655950, .int 0, .int p655952]) := (hfr656003 q655930 hmq655930 (nm_c (rn_oo he655982 he655980 (by decide)) nm_n)).trans he655982
        have hfr656011 : rFr [q655930, q655929] P655927 F655928 F656001 := rFr_call (rSub_rf (P := P655927)) hfr655983 hfr656003 (fun b hb hn => ⟨(nm_c (fun e => hn (e ▸ List.mem_cons_self)) nm_n), (nm_c (fun e => hn (e ▸ (List.mem_cons_of_mem _ List.mem_cons_self))) nm_n)⟩)
        have bo655993 := gB_any o655993
        change G _ _ _ _ _ _ _ _ _ _ _
        refine G_widen (cs' := (16 * (o655990.toInt - p655934.toInt)).toNat) (sl' := (256 * (o655990.toInt - p655934.toInt)).toNat) (by omega) (by omega) ?_
        exact G_vretA dr_cX14_operand_68 rfl (show (16 * (o655990.toInt - p655934.toInt)).toNat ≤ ((16 * (p655933.toInt - p655934.toInt)).toNat + 1) by omega) (show (256 * (o655990.toInt - p655934.toInt)).toNat ≤ ((256 * (p655933.toInt - p655934.toInt)).toNat + 7) by omega) ⟨P656000, F656001, o655990, o655991, o655992, o655993, q655994, p655937, p655949, 0, p655952, rfl, rfl, hsb656009, hfr656011, he656010, he656004, he656005, (by omega), (by omega), bo655990, bo655991, bo655992, (gB_w (gBl (show Int32.toInt 0 = 0 by decide)) (by decide) (by decide)), bp655952, (by have qa0 : Int32.toInt 0 = 0 := (by decide); omega), x655996, (by have qa0 : Int32.toInt 0 = 0 := (by decide); omega), x655998, x655999, rwP_0, x655960⟩
      · have r656012 : p655932.toInt ≠ 0 := gj_neq hc655967 (show Int32.toInt 0 = 0 by decide)
        have bp655932' : gB p655932 1 1 := ⟨by omega, by omega⟩
        refine G_aload_n 2 dr_cX14_operand_35 rfl ?_
        refine G_aload_n 1 dr_cX14_operand_36 rfl ?_
        refine Gp_get 5 hmq655929 heq655929 dr_cX14_operand_37 (gk_X14 D I) (Nat.le_of_ble_eq_true rfl) wr_9_41 rfl ?_
        refine Gp_put 3 hmq655930 heq655930 dr_cX14_operand_40 (gk_X15 D I) (Nat.le_of_ble_eq_true rfl) wr_9_191 rfl rfl rfl (Nat.le_of_ble_eq_true rfl) (fun F656013 e656014 n656015 => ?_)
        have he656016 : F656013 q655929 = .inr (19, [.ref q655931, .int p655933, .int p655934, .int p655935, .int p655936, .int p655937, .int p655938, .ref qo655939, .int p655940, .int p655941, .int p655942, .ref qo655943, .ref qo655944, .int p655945]) := (n656015 q655929 (rn_oo heq655929 heq655930 (by decide))).trans heq655929
        have he656017 : F656013 q655931 = .inl (I .byte, 8192, .inl f655953) := (n656015 q655931 (rn_ao heq655931 heq655930)).trans heq655931
        have he656018 : F656013 q655930 = .inr (20, [.int p655946, .int p655947, .int p655948, .int p655937, .int p655950, .int p655951, .int p655952]) := e656014
        have hfr656019 : rFr [q655930] P655927 F655928 F656013 := rFr_put (rFr_rf (W := []) (P := P655927) (F := F655928)) n656015
        have tp656020 : tP I P655927 F656013 p655935 qo655939 qo655944 qo655943 := tP_put x655957 heq655930 (by decide) n656015
        refine G_aload_n 2 dr_cX14_operand_43 rfl ?_
        refine G_iload_n 0 dr_cX14_operand_44 rfl ?_
        refine Gp_put 6 hmq655930 he656018 dr_cX14_operand_45 (gk_X15 D I) (Nat.le_of_ble_eq_true rfl) wr_9_201 rfl rfl rfl (Nat.le_of_ble_eq_true rfl) (fun F656021 e656022 n656023 => ?_)
        have he656024 : F656021 q655929 = .inr (19, [.ref q655931, .int p655933, .int p655934, .int p655935, .int p655936, .int p655937, .int p655938, .ref qo655939, .int p655940, .int p655941, .int p655942, .ref qo655943, .ref qo655944, .int p655945]) := (n656023 q655929 (rn_oo he656016 he656018 (by decide))).trans he656016
        have he656025 : F656021 q655931 = .inl (I .byte, 8192, .inl f655953) := (n656023 q655931 (rn_ao he656017 he656018)).trans he656017
        have he656026 : F656021 q655930 = .inr (20, [.int p655946, .int p655947, .int p655948, .int p655937, .int p655950, .int p655951, .int 0]) := e656022
        have hfr656027 : rFr [q655930] P655927 F655928 F656021 := rFr_put' List.mem_cons_self hfr656019 n656023
        have tp656028 : tP I P655927 F656021 p655935 qo655939 qo655944 qo655943 := tP_put tp656020 he656018 (by decide) n656023
        refine G_goto 64 dr_cX14_operand_48 (by decide +kernel) ?_
        refine G_aload_n 1 dr_cX14_operand_64 rfl ?_
        refine Gw_callV (As := []) (gV_ok D I) (cp_653748_Reader_next l hl0 D I P655927 F656021 q655929 q655931 p655933 p655934 p655935 p655936 p655937 p655938 qo655939 p655940 p655941 p655942 qo655943 qo655944 p655945 f655953 hmq655929 hmq655931 he656024 he656025 bp655933 bp655934 (gB_w bp655935' (by decide) (by decide)) bp655936 bp655938 bp655940 bp655941 bp655942 bp655945 bf655953 (by have qa0 : Int32.toInt 0 = 0 := (by decide); omega) x655955 x655956) dr_cX14_operand_65 ⟨wr_7_215, wr_1_32, wr_7_218, by decide, rfl, (Nat.le_of_ble_eq_true rfl), (Nat.le_of_ble_eq_true rfl)⟩ wr_7_217 wr_p_75 hmq655929 he656024 rfl (show 0 + ((16 * (p655933.toInt - p655934.toInt)).toNat) ≤ ((16 * (p655933.toInt - p655934.toInt)).toNat + 1) by first | omega | decide) (show 0 + ((256 * (p655933.toInt - p655934.toInt)).toNat) ≤ ((256 * (p655933.toInt - p655934.toInt)).toNat + 7) by first | omega | decide) (Nat.le_of_ble_eq_true rfl) (fun r656032 w656033 dc656029 ds656030 hp656031 => ?_) (fun _ _ _ _ _ z => z.elim)
        obtain ⟨P656044, F656045, o656034, o656035, o656036, o656037, q656038, rfl, rfl, hsb656046, hfr656047, he656048, he656049, hdc, hds, bo656034, bo656035, bo656036, x656039, x656040, x656041, x656042, x656043⟩ := hp656031
        have hm656050 : q655929 ∈ P656044 := hsb656046 q655929 hmq655929
        have hm656051 : q655930 ∈ P656044 := hsb656046 q655930 hmq655930
        have hm656052 : q655931 ∈ P656044 := hsb656046 q655931 hmq655931
        have hsb656053 : rSub P655927 P656044 := rSub_tr (rSub_rf (P := P655927)) hsb656046
        have he656054 : F656045 q655930 = .inr (20, [.int p655946, .int p655947, .int p655948, .int p655937, .int p655950, .int p655951, .int 0]) := (hfr656047 q655930 hmq655930 (nm_c (rn_oo he656026 he656024 (by decide)) nm_n)).trans he656026
        have hfr656055 : rFr [q655930, q655929] P655927 F655928 F656045 := rFr_call (rSub_rf (P := P655927)) hfr656027 hfr656047 (fun b hb hn => ⟨(nm_c (fun e => hn (e ▸ List.mem_cons_self)) nm_n), (nm_c (fun e => hn (e ▸ (List.mem_cons_of_mem _ List.mem_cons_self))) nm_n)⟩)
        have bo656037 := gB_any o656037
        change G _ _ _ _ _ _ _ _ _ _ _
        refine G_widen (cs' := (16 * (o656034.toInt - p655934.toInt)).toNat) (sl' := (256 * (o656034.toInt - p655934.toInt)).toNat) (by omega) (by omega) ?_
        exact G_vretA dr_cX14_operand_68 rfl (show (16 * (o656034.toInt - p655934.toInt)).toNat ≤ ((16 * (p655933.toInt - p655934.toInt)).toNat + 1) by omega) (show (256 * (o656034.toInt - p655934.toInt)).toNat ≤ ((256 * (p655933.toInt - p655934.toInt)).toNat + 7) by omega) ⟨P656044, F656045, o656034, o656035, o656036, o656037, q656038, p655948, p655937, p655951, 0, rfl, rfl, hsb656053, hfr656055, he656054, he656048, he656049, (by omega), (by omega), bo656034, bo656035, bo656036, bp655951, (gB_w (gBl (show Int32.toInt 0 = 0 by decide)) (by decide) (by decide)), (by have qa0 : Int32.toInt 0 = 0 := (by decide); omega), x656040, (by have qa0 : Int32.toInt 0 = 0 := (by decide); omega), x656042, x656043, x655959, rwP_0⟩
    · have r656056 : p655935.toInt ≠ 4 := gj_neq hc655965 (show Int32.toInt 4 = 4 by decide)
      refine G_aload_n 1 dr_cX14_operand_26 rfl ?_
      refine Gw_callV (As := []) (gV_ok D I) (cp_655379_Reader_no l hl0 D I P655927 F655928 q655929 q655931 p655933 p655934 p655935 p655936 p655937 p655938 qo655939 p655940 p655941 p655942 qo655943 qo655944 p655945 f655953 hmq655929 hmq655931 heq655929 heq655931 bp655933 bp655934 bp655935 bp655936 bp655938 bp655940 bp655941 bp655942 bp655945 bf655953) dr_cX14_operand_27 ⟨wr_9_97, wr_1_32, wr_9_100, by decide, rfl, (Nat.le_of_ble_eq_true rfl), (Nat.le_of_ble_eq_true rfl)⟩ wr_9_99 wr_p_81 hmq655929 heq655929 rfl (show 0 + 1 ≤ ((16 * (p655933.toInt - p655934.toInt)).toNat + 1) by first | omega | decide) (show 0 + 7 ≤ ((256 * (p655933.toInt - p655934.toInt)).toNat + 7) by first | omega | decide) (Nat.le_of_ble_eq_true rfl) (fun r656060 w656061 dc656057 ds656058 hp656059 => ?_) (fun _ _ _ _ _ z => z.elim)
      obtain ⟨P656063, F656064, q656062, rfl, rfl, hsb656065, hfr656066, he656067, he656068, he656069, hm656070, hq656071, hdc, hds⟩ := hp656059
      have hm656072 : q655929 ∈ P656063 := hsb656065 q655929 hmq655929
      have hm656073 : q655930 ∈ P656063 := hsb656065 q655930 hmq655930
      have hm656074 : q655931 ∈ P656063 := hsb656065 q655931 hmq655931
      have hq656075 : q656062 ∉ P655927 := fun z => hq656071 ((rSub_rf (P := P655927)) q656062 z)
      have hsb656076 : rSub P655927 P656063 := rSub_tr (rSub_rf (P := P655927)) hsb656065
      have he656077 : F656064 q655930 = .inr (20, [.int p655946, .int p655947, .int p655948, .int p655949, .int p655950, .int p655951, .int p655952]) := (hfr656066 q655930 hmq655930 nm_n).trans heq655930
      have hfr656078 : rFr [] P655927 F655928 F656064 := rFr_call (rSub_rf (P := P655927)) (rFr_rf (W := []) (P := P655927) (F := F655928)) hfr656066 (fun b hb hn => ⟨nm_n, nm_n⟩)
      have tp656079 : tP I P656063 F656064 p655935 qo655939 qo655944 qo655943 := tP_new x655957 hsb656065 (fun b hb => hfr656066 b hb (fun z => by cases z)) (Or.inl rfl) (Or.inl rfl)
      change G _ _ _ _ _ _ _ (.ref q656062 :: _) _ _ _
      refine G_widen (cs' := 1) (sl' := 7) (by omega) (by omega) ?_
      exact Gp_athrow hm656070 he656069 rfl dr_cX14_operand_30 (GT_outA rfl (show 1 ≤ ((16 * (p655933.toInt - p655934.toInt)).toNat + 1) by omega) (show 7 ≤ ((256 * (p655933.toInt - p655934.toInt)).toNat + 7) by omega) ⟨P656063, F656064, rfl, rfl, hsb656076, hfr656078, hm656070, hq656075, ⟨_, _, _, _, _, _, _, he656069, by omega⟩, (by omega), (by omega), ⟨p655946, p655947, p655948, p655949, p655950, p655951, p655952, he656077, bp655946, bp655947, bp655950, bp655951, bp655952, x655961, x655959, x655960⟩⟩)
  · have r656080 : p655935.toInt = 2 := gj_eq hc655963 (show Int32.toInt 2 = 2 by decide)
    have bp655935' : gB p655935 2 2 := ⟨by omega, by omega⟩
    refine G_iconst 1 dr_cX14_operand_8 (by decide +kernel) ?_
    refine G_goto 13 dr_cX14_operand_9 (by decide +kernel) ?_
    refine G_istore_n (L' := [(3, .int 1), (0, .ref q655929), (1, .ref q655930), (2, .int p655932)]) dr_cX14_operand_13 (Nat.le_of_ble_eq_true rfl) rfl ?_
    refine G_iload_n 0 dr_cX14_operand_14 rfl ?_
    refine G_if_ne 31 dr_cX14_operand_15 (by decide +kernel) (fun _ => ?_) (fun hc => absurd hc (by decide))
    refine G_iload_n 3 dr_cX14_operand_31 rfl ?_
    refine G_if_eq 51 dr_cX14_operand_32 (by decide +kernel) (fun hc656081 => ?_) (fun hc656081 => ?_)
    · have r656082 : p655932.toInt = 0 := gj_eq hc656081 (show Int32.toInt 0 = 0 by decide)
      have bp655932' : gB p655932 0 0 := ⟨by omega, by omega⟩
      refine G_aload_n 2 dr_cX14_operand_51 rfl ?_
      refine G_aload_n 1 dr_cX14_operand_52 rfl ?_
      refine Gp_get 5 hmq655929 heq655929 dr_cX14_operand_53 (gk_X14 D I) (Nat.le_of_ble_eq_true rfl) wr_9_41 rfl ?_
      refine Gp_put 2 hmq655930 heq655930 dr_cX14_operand_56 (gk_X15 D I) (Nat.le_of_ble_eq_true rfl) wr_9_187 rfl rfl rfl (Nat.le_of_ble_eq_true rfl) (fun F656083 e656084 n656085 => ?_)
      have he656086 : F656083 q655929 = .inr (19, [.ref q655931, .int p655933, .int p655934, .int p655935, .int p655936, .int p655937, .int p655938, .ref qo655939, .int p655940, .int p655941, .int p655942, .ref qo655943, .ref qo655944, .int p655945]) := (n656085 q655929 (rn_oo heq655929 heq655930 (by decide))).trans heq655929
      have he656087 : F656083 q655931 = .inl (I .byte, 8192, .inl f655953) := (n656085 q655931 (rn_ao heq655931 heq655930)).trans heq655931
      have he656088 : F656083 q655930 = .inr (20, [.int p655946, .int p655947, .int p655937, .int p655949, .int p655950, .int p655951, .int p655952]) := e656084
      have hfr656089 : rFr [q655930] P655927 F655928 F656083 := rFr_put (rFr_rf (W := []) (P := P655927) (F := F655928)) n656085
      have tp656090 : tP I P655927 F656083 p655935 qo655939 qo655944 qo655943 := tP_put x655957 heq655930 (by decide) n656085
      refine G_aload_n 2 dr_cX14_operand_59 rfl ?_
      refine G_iload_n 0 dr_cX14_operand_60 rfl ?_
      refine Gp_put 5 hmq655930 he656088 dr_cX14_operand_61 (gk_X15 D I) (Nat.le_of_ble_eq_true rfl) wr_9_198 rfl rfl rfl (Nat.le_of_ble_eq_true rfl) (fun F656091 e656092 n656093 => ?_)
      have he656094 : F656091 q655929 = .inr (19, [.ref q655931, .int p655933, .int p655934, .int p655935, .int p655936, .int p655937, .int p655938, .ref qo655939, .int p655940, .int p655941, .int p655942, .ref qo655943, .ref qo655944, .int p655945]) := (n656093 q655929 (rn_oo he656086 he656088 (by decide))).trans he656086
      have he656095 : F656091 q655931 = .inl (I .byte, 8192, .inl f655953) := (n656093 q655931 (rn_ao he656087 he656088)).trans he656087
      have he656096 : F656091 q655930 = .inr (20, [.int p655946, .int p655947, .int p655937, .int p655949, .int p655950, .int 1, .int p655952]) := e656092
      have hfr656097 : rFr [q655930] P655927 F655928 F656091 := rFr_put' List.mem_cons_self hfr656089 n656093
      have tp656098 : tP I P655927 F656091 p655935 qo655939 qo655944 qo655943 := tP_put tp656090 he656088 (by decide) n656093
      refine G_aload_n 1 dr_cX14_operand_64 rfl ?_
      refine Gw_callV (As := []) (gV_ok D I) (cp_653748_Reader_next l hl0 D I P655927 F656091 q655929 q655931 p655933 p655934 p655935 p655936 p655937 p655938 qo655939 p655940 p655941 p655942 qo655943 qo655944 p655945 f655953 hmq655929 hmq655931 he656094 he656095 bp655933 bp655934 (gB_w bp655935' (by decide) (by decide)) bp655936 bp655938 bp655940 bp655941 bp655942 bp655945 bf655953 (by have qa0 : Int32.toInt 1 = 1 := (by decide); omega) x655955 x655956) dr_cX14_operand_65 ⟨wr_7_215, wr_1_32, wr_7_218, by decide, rfl, (Nat.le_of_ble_eq_true rfl), (Nat.le_of_ble_eq_true rfl)⟩ wr_7_217 wr_p_75 hmq655929 he656094 rfl (show 0 + ((16 * (p655933.toInt - p655934.toInt)).toNat) ≤ ((16 * (p655933.toInt - p655934.toInt)).toNat + 1) by first | omega | decide) (show 0 + ((256 * (p655933.toInt - p655934.toInt)).toNat) ≤ ((256 * (p655933.toInt - p655934.toInt)).toNat + 7) by first | omega | decide) (Nat.le_of_ble_eq_true rfl) (fun r656102 w656103 dc656099 ds656100 hp656101 => ?_) (fun _ _ _ _ _ z => z.elim)
      obtain ⟨P656114, F656115, o656104, o656105, o656106, o656107, q656108, rfl, rfl, hsb656116, hfr656117, he656118, he656119, hdc, hds, bo656104, bo656105, bo656106, x656109, x656110, x656111, x656112, x656113⟩ := hp656101
      have hm656120 : q655929 ∈ P656114 := hsb656116 q655929 hmq655929
      have hm656121 : q655930 ∈ P656114 := hsb656116 q655930 hmq655930
      have hm656122 : q655931 ∈ P656114 := hsb656116 q655931 hmq655931
      have hsb656123 : rSub P655927 P656114 := rSub_tr (rSub_rf (P := P655927)) hsb656116
      have he656124 : F656115 q655930 = .inr (20, [.int p655946, .int p655947, .int p655937, .int p655949, .int p655950, .int 1, .int p655952]) := (hfr656117 q655930 hmq655930 (nm_c (rn_oo he656096 he656094 (by decide)) nm_n)).trans he656096
      have hfr656125 : rFr [q655930, q655929] P655927 F655928 F656115 := rFr_call (rSub_rf (P := P655927)) hfr656097 hfr656117 (fun b hb hn => ⟨(nm_c (fun e => hn (e ▸ List.mem_cons_self)) nm_n), (nm_c (fun e => hn (e ▸ (List.mem_cons_of_mem _ List.mem_cons_self))) nm_n)⟩)
      have bo656107 := gB_any o656107
      change G _ _ _ _ _ _ _ _ _ _ _
      refine G_widen (cs' := (16 * (o656104.toInt - p655934.toInt)).toNat) (sl' := (256 * (o656104.toInt - p655934.toInt)).toNat) (by omega) (by omega) ?_
      exact G_vretA dr_cX14_operand_68 rfl (show (16 * (o656104.toInt - p655934.toInt)).toNat ≤ ((16 * (p655933.toInt - p655934.toInt)).toNat + 1) by omega) (show (256 * (o656104.toInt - p655934.toInt)).toNat ≤ ((256 * (p655933.toInt - p655934.toInt)).toNat + 7) by omega) ⟨P656114, F656115, o656104, o656105, o656106, o656107, q656108, p655937, p655949, 1, p655952, rfl, rfl, hsb656123, hfr656125, he656124, he656118, he656119, (by omega), (by omega), bo656104, bo656105, bo656106, (gB_w (gBl (show Int32.toInt 1 = 1 by decide)) (by decide) (by decide)), bp655952, (by have qa0 : Int32.toInt 1 = 1 := (by decide); omega), x656110, (by have qa0 : Int32.toInt 1 = 1 := (by decide); omega), x656112, x656113, (rwP_1 x655958 (by omega)), x655960⟩
    · have r656126 : p655932.toInt ≠ 0 := gj_neq hc656081 (show Int32.toInt 0 = 0 by decide)
      have bp655932' : gB p655932 1 1 := ⟨by omega, by omega⟩
      refine G_aload_n 2 dr_cX14_operand_35 rfl ?_
      refine G_aload_n 1 dr_cX14_operand_36 rfl ?_
      refine Gp_get 5 hmq655929 heq655929 dr_cX14_operand_37 (gk_X14 D I) (Nat.le_of_ble_eq_true rfl) wr_9_41 rfl ?_
      refine Gp_put 3 hmq655930 heq655930 dr_cX14_operand_40 (gk_X15 D I) (Nat.le_of_ble_eq_true rfl) wr_9_191 rfl rfl rfl (Nat.le_of_ble_eq_true rfl) (fun F656127 e656128 n656129 => ?_)
      have he656130 : F656127 q655929 = .inr (19, [.ref q655931, .int p655933, .int p655934, .int p655935, .int p655936, .int p655937, .int p655938, .ref qo655939, .int p655940, .int p655941, .int p655942, .ref qo655943, .ref qo655944, .int p655945]) := (n656129 q655929 (rn_oo heq655929 heq655930 (by decide))).trans heq655929
      have he656131 : F656127 q655931 = .inl (I .byte, 8192, .inl f655953) := (n656129 q655931 (rn_ao heq655931 heq655930)).trans heq655931
      have he656132 : F656127 q655930 = .inr (20, [.int p655946, .int p655947, .int p655948, .int p655937, .int p655950, .int p655951, .int p655952]) := e656128
      have hfr656133 : rFr [q655930] P655927 F655928 F656127 := rFr_put (rFr_rf (W := []) (P := P655927) (F := F655928)) n656129
      have tp656134 : tP I P655927 F656127 p655935 qo655939 qo655944 qo655943 := tP_put x655957 heq655930 (by decide) n656129
      refine G_aload_n 2 dr_cX14_operand_43 rfl ?_
      refine G_iload_n 0 dr_cX14_operand_44 rfl ?_
      refine Gp_put 6 hmq655930 he656132 dr_cX14_operand_45 (gk_X15 D I) (Nat.le_of_ble_eq_true rfl) wr_9_201 rfl rfl rfl (Nat.le_of_ble_eq_true rfl) (fun F656135 e656136 n656137 => ?_)
      have he656138 : F656135 q655929 = .inr (19, [.ref q655931, .int p655933, .int p655934, .int p655935, .int p655936, .int p655937, .int p655938, .ref qo655939, .int p655940, .int p655941, .int p655942, .ref qo655943, .ref qo655944, .int p655945]) := (n656137 q655929 (rn_oo he656130 he656132 (by decide))).trans he656130
      have he656139 : F656135 q655931 = .inl (I .byte, 8192, .inl f655953) := (n656137 q655931 (rn_ao he656131 he656132)).trans he656131
      have he656140 : F656135 q655930 = .inr (20, [.int p655946, .int p655947, .int p655948, .int p655937, .int p655950, .int p655951, .int 1]) := e656136
      have hfr656141 : rFr [q655930] P655927 F655928 F656135 := rFr_put' List.mem_cons_self hfr656133 n656137
      have tp656142 : tP I P655927 F656135 p655935 qo655939 qo655944 qo655943 := tP_put tp656134 he656132 (by decide) n656137
      refine G_goto 64 dr_cX14_operand_48 (by decide +kernel) ?_
      refine G_aload_n 1 dr_cX14_operand_64 rfl ?_
      refine Gw_callV (As := []) (gV_ok D I) (cp_653748_Reader_next l hl0 D I P655927 F656135 q655929 q655931 p655933 p655934 p655935 p655936 p655937 p655938 qo655939 p655940 p655941 p655942 qo655943 qo655944 p655945 f655953 hmq655929 hmq655931 he656138 he656139 bp655933 bp655934 (gB_w bp655935' (by decide) (by decide)) bp655936 bp655938 bp655940 bp655941 bp655942 bp655945 bf655953 (by have qa0 : Int32.toInt 1 = 1 := (by decide); omega) x655955 x655956) dr_cX14_operand_65 ⟨wr_7_215, wr_1_32, wr_7_218, by decide, rfl, (Nat.le_of_ble_eq_true rfl), (Nat.le_of_ble_eq_true rfl)⟩ wr_7_217 wr_p_75 hmq655929 he656138 rfl (show 0 + ((16 * (p655933.toInt - p655934.toInt)).toNat) ≤ ((16 * (p655933.toInt - p655934.toInt)).toNat + 1) by first | omega | decide) (show 0 + ((256 * (p655933.toInt - p655934.toInt)).toNat) ≤ ((256 * (p655933.toInt - p655934.toInt)).toNat + 7) by first | omega | decide) (Nat.le_of_ble_eq_true rfl) (fun r656146 w656147 dc656143 ds656144 hp656145 => ?_) (fun _ _ _ _ _ z => z.elim)
      obtain ⟨P656158, F656159, o656148, o656149, o656150, o656151, q656152, rfl, rfl, hsb656160, hfr656161, he656162, he656163, hdc, hds, bo656148, bo656149, bo656150, x656153, x656154, x656155, x656156, x656157⟩ := hp656145
      have hm656164 : q655929 ∈ P656158 := hsb656160 q655929 hmq655929
      have hm656165 : q655930 ∈ P656158 := hsb656160 q655930 hmq655930
      have hm656166 : q655931 ∈ P656158 := hsb656160 q655931 hmq655931
      have hsb656167 : rSub P655927 P656158 := rSub_tr (rSub_rf (P := P655927)) hsb656160
      have he656168 : F656159 q655930 = .inr (20, [.int p655946, .int p655947, .int p655948, .int p655937, .int p655950, .int p655951, .int 1]) := (hfr656161 q655930 hmq655930 (nm_c (rn_oo he656140 he656138 (by decide)) nm_n)).trans he656140
      have hfr656169 : rFr [q655930, q655929] P655927 F655928 F656159 := rFr_call (rSub_rf (P := P655927)) hfr656141 hfr656161 (fun b hb hn => ⟨(nm_c (fun e => hn (e ▸ List.mem_cons_self)) nm_n), (nm_c (fun e => hn (e ▸ (List.mem_cons_of_mem _ List.mem_cons_self))) nm_n)⟩)
      have bo656151 := gB_any o656151
      change G _ _ _ _ _ _ _ _ _ _ _
      refine G_widen (cs' := (16 * (o656148.toInt - p655934.toInt)).toNat) (sl' := (256 * (o656148.toInt - p655934.toInt)).toNat) (by omega) (by omega) ?_
      exact G_vretA dr_cX14_operand_68 rfl (show (16 * (o656148.toInt - p655934.toInt)).toNat ≤ ((16 * (p655933.toInt - p655934.toInt)).toNat + 1) by omega) (show (256 * (o656148.toInt - p655934.toInt)).toNat ≤ ((256 * (p655933.toInt - p655934.toInt)).toNat + 7) by omega) ⟨P656158, F656159, o656148, o656149, o656150, o656151, q656152, p655948, p655937, p655951, 1, rfl, rfl, hsb656167, hfr656169, he656168, he656162, he656163, (by omega), (by omega), bo656148, bo656149, bo656150, bp655951, (gB_w (gBl (show Int32.toInt 1 = 1 by decide)) (by decide) (by decide)), (by have qa0 : Int32.toInt 1 = 1 := (by decide); omega), x656154, (by have qa0 : Int32.toInt 1 = 1 := (by decide); omega), x656156, x656157, x655959, (rwP_1 x655958 (by omega))⟩
abbrev ky_656357_StringLatin1_charAt : gKey := (cJ1_charAt_3b067, 2, "java/lang/StringLatin1", (some FieldType.char), [], "charAt", fun _ _ => True)
def pp_656357_StringLatin1_charAt (D : va_G) (I : FieldType → ClassId) (P656351 : List Nat) (F656352 : Nat → va_E) (qs656353 : Nat) (bs656354 : List Int32) (p656355 : Int32) : Option Value → va_W → Nat → Nat → Prop := fun r w dc ds => ∃ (o656367 : Int32), r = some (.int o656367) ∧ w = va_pl P656351 F656352 ∧ dc ≤ 0 ∧ ds ≤ 0 ∧ gB o656367 0 255 ∧ chP (fun j => bs656354.getD j 0) p656355 o656367
set_option maxRecDepth 100000 in
set_option maxHeartbeats 4000000 in
theorem cp_656357_StringLatin1_charAt (l : Launch) (hl0 : l.stackTraces = false) (D : va_G) (I : FieldType → ClassId) (P656351 : List Nat) (F656352 : Nat → va_E) (qs656353 : Nat) (bs656354 : List Int32) (p656355 : Int32) (hbs656354 : ∀ A s H, (gV D I).2.2.2.1 A s H → va_T .byte qs656353 bs656354.length (fun j => .int (bs656354.getD j 0)) A s H) (nbs656354 : (bs656354.length : Int) ≤ 65535) (lbs656354 : gLB bs656354) (bp656355 : gB p656355 0 16777215) (x656356 : p656355.toInt < (bs656354.length : Int)) : CtA (gV D I) l yJ1_charAt_3b067 cJ1_charAt_3b067 2 (some FieldType.char) 2 43 0 0 [.ref qs656353, .int p656355] (va_pl P656351 F656352) (pp_656357_StringLatin1_charAt D I P656351 F656352 qs656353 bs656354 p656355) gNA := by
  refine CtA_ofF hl0 (by decide +kernel) (Nat.le_of_ble_eq_true rfl) ?_
  refine G_iload_n 1 dr_cJ1_charAt_3b067_0 rfl ?_
  refine G_aload_n 0 dr_cJ1_charAt_3b067_1 rfl ?_
  refine G_klen dr_cJ1_charAt_3b067_2 hbs656354 (G_nam fun z656358 hz656358 => ?_)
  have ez656358 : z656358.toInt = (bs656354.length : Int) := gI_ofN hz656358 nbs656354
  have bz656358 : gB z656358 0 65535 := ⟨by omega, by omega⟩
  refine Gw_callS (As := [.int p656355, .int z656358]) (gV_ok D I) (cp_640050_String_checkIndex l hl0 D I P656351 F656352 p656355 z656358 (gB_w bp656355 (by decide) (by decide)) (gB_w bz656358 (by decide) (by decide)) (by omega)) dr_cJ1_charAt_3b067_3 ⟨wr_3_78, wr_1_21, wr_3_80, by decide, rfl, (Nat.le_of_ble_eq_true rfl), (Nat.le_of_ble_eq_true rfl)⟩ wr_3_79 (show 0 + 0 ≤ 0 by first | omega | decide) (show 0 + 0 ≤ 0 by first | omega | decide) (Nat.le_of_ble_eq_true rfl) (fun r656362 w656363 dc656359 ds656360 hp656361 => ?_) (fun _ _ _ _ _ z => z.elim)
  obtain ⟨rfl, rfl, hdc, hds⟩ := hp656361
  change G _ _ _ _ _ _ _ _ _ _ _
  refine G_widen (cs' := 0) (sl' := 0) (by omega) (by omega) ?_
  refine G_aload_n 0 dr_cJ1_charAt_3b067_6 rfl ?_
  refine G_iload_n 1 dr_cJ1_charAt_3b067_7 rfl ?_
  refine G_kbald (f := fun j => bs656354.getD j 0) dr_cJ1_charAt_3b067_8 hbs656354 (gB_inr (by omega) (by omega)) (G_nam fun z656364 hz656364 => ?_)
  have bz656364 : gB z656364 (-2147483648) 2147483647 := gB_any z656364
  refine G_sipush 255 dr_cJ1_charAt_3b067_9 (by decide +kernel) ?_
  refine G_iand dr_cJ1_charAt_3b067_12 (G_nam fun z656365 hz656365 => ?_)
  have bz656365 : gB z656365 0 255 := gB_and hz656365 (gBl (show Int32.toInt 255 = 255 by decide)) (by decide)
  refine G_i2c dr_cJ1_charAt_3b067_13 (G_nam fun z656366 hz656366 => ?_)
  have ez656366 : z656366.toInt = z656365.toInt := gI_i2c hz656366 (by omega) (by omega)
  have bz656366 : gB z656366 0 255 := ⟨by omega, by omega⟩
  exact G_zretA FieldType.char dr_cJ1_charAt_3b067_14 rfl (gN_char (gB_w bz656366 (by decide) (by decide))) (Nat.le_of_ble_eq_true rfl) (Nat.le_of_ble_eq_true rfl) ⟨z656366, rfl, rfl, (Nat.le_of_ble_eq_true rfl), (Nat.le_of_ble_eq_true rfl), bz656366, (chP_of (by assumption) (by assumption) (by omega) (chb lbs656354 (by assumption)))⟩
abbrev ky_656345_String_charAt : gKey := (cJ0_charAt_5068e, 2, "java/lang/String", (some FieldType.char), [], "charAt", fun _ _ => True)
def pp_656345_String_charAt (D : va_G) (I : FieldType → ClassId) (P656338 : List Nat) (F656339 : Nat → va_E) (qs656340 : Nat) (qb656341 : Nat) (bs656342 : List Int32) (p656343 : Int32) : Option Value → va_W → Nat → Nat → Prop := fun r w dc ds => ∃ (o656375 : Int32), r = some (.int o656375) ∧ w = va_pl P656338 F656339 ∧ dc ≤ 0 ∧ ds ≤ 0 ∧ gB o656375 0 255 ∧ chP (fun j => bs656342.getD j 0) p656343 o656375
set_option maxRecDepth 100000 in
set_option maxHeartbeats 4000000 in
theorem cp_656345_String_charAt (l : Launch) (hl0 : l.stackTraces = false) (D : va_G) (I : FieldType → ClassId) (P656338 : List Nat) (F656339 : Nat → va_E) (qs656340 : Nat) (qb656341 : Nat) (bs656342 : List Int32) (p656343 : Int32) (hbs656342 : ∀ A s H, (gV D I).2.2.2.1 A s H → gSC qs656340 qb656341 bs656342 A s H) (nbs656342 : (bs656342.length : Int) ≤ 65535) (lbs656342 : gLB bs656342) (bp656343 : gB p656343 0 65535) (x656344 : p656343.toInt < (bs656342.length : Int)) : CtA (gV D I) l yJ0_charAt_5068e cJ0_charAt_5068e 2 (some FieldType.char) 3 64 0 0 [.ref qs656340, .int p656343] (va_pl P656338 F656339) (pp_656345_String_charAt D I P656338 F656339 qs656340 qb656341 bs656342 p656343) gNA := by
  refine CtA_ofF hl0 (by decide +kernel) (Nat.le_of_ble_eq_true rfl) ?_
  refine G_aload_n 0 dr_cJ0_charAt_5068e_0 rfl ?_
  refine Gw_callVk (As := []) (gV_ok D I) (cp_641686_String_isLatin1 l hl0 D I P656338 F656339 qs656340 qb656341 bs656342 hbs656342 nbs656342 lbs656342) dr_cJ0_charAt_5068e_1 ⟨wr_3_71, wr_1_21, wr_3_74, by decide, rfl, (Nat.le_of_ble_eq_true rfl), (Nat.le_of_ble_eq_true rfl)⟩ wr_3_72 wr_3_73 (fun _ _ _ h => (hbs656342 _ _ _ h).1) (show 0 + 0 ≤ 0 by first | omega | decide) (show 0 + 0 ≤ 0 by first | omega | decide) (Nat.le_of_ble_eq_true rfl) (fun r656349 w656350 dc656346 ds656347 hp656348 => ?_) (fun _ _ _ _ _ z => z.elim)
  obtain ⟨rfl, rfl, hdc, hds⟩ := hp656348
  change G _ _ _ _ _ _ _ (.int 1 :: _) _ _ _
  refine G_widen (cs' := 0) (sl' := 0) (by omega) (by omega) ?_
  refine G_if_eq 16 dr_cJ0_charAt_5068e_4 (by decide +kernel) (fun hc => absurd hc (by decide)) (fun _ => ?_)
  refine G_aload_n 0 dr_cJ0_charAt_5068e_7 rfl ?_
  refine G_kget dr_cJ0_charAt_5068e_8 wr_8_182 (fun _ _ _ h => (hbs656342 _ _ _ h).2.2.1) ?_
  refine G_iload_n 1 dr_cJ0_charAt_5068e_11 rfl ?_
  refine Gw_callS (As := [.ref qb656341, .int p656343]) (gV_ok D I) (cp_656357_StringLatin1_charAt l hl0 D I P656338 F656339 qb656341 bs656342 p656343 (fun _ _ _ h => (hbs656342 _ _ _ h).2.2.2) (by omega) lbs656342 (gB_w bp656343 (by decide) (by decide)) (by omega)) dr_cJ0_charAt_5068e_12 ⟨wr_3_75, wr_1_28, wr_3_77, by decide, rfl, (Nat.le_of_ble_eq_true rfl), (Nat.le_of_ble_eq_true rfl)⟩ wr_3_76 (show 0 + 0 ≤ 0 by first | omega | decide) (show 0 + 0 ≤ 0 by first | omega | decide) (Nat.le_of_ble_eq_true rfl) (fun r656371 w656372 dc656368 ds656369 hp656370 => ?_) (fun _ _ _ _ _ z => z.elim)
  obtain ⟨o656373, rfl, rfl, hdc, hds, bo656373, x656374⟩ := hp656370
  change G _ _ _ _ _ _ _ (.int o656373 :: _) _ _ _
  refine G_widen (cs' := 0) (sl' := 0) (by omega) (by omega) ?_
  exact G_zretA FieldType.char dr_cJ0_charAt_5068e_15 rfl (gN_char (gB_w bo656373 (by decide) (by decide))) (Nat.le_of_ble_eq_true rfl) (Nat.le_of_ble_eq_true rfl) ⟨o656373, rfl, rfl, (Nat.le_of_ble_eq_true rfl), (Nat.le_of_ble_eq_true rfl), bo656373, x656374⟩
abbrev ky_656193_SpillForgeModel_operation : gKey := (cX17_operation, 4, "SpillForgeModel", (some FieldType.int), [], "operation", fun _ _ => True)
def pp_656193_SpillForgeModel_operation (D : va_G) (I : FieldType → ClassId) (P656183 : List Nat) (F656184 : Nat → va_E) (q656185 : Nat) (q656186 : Nat) (p656187 : Int32) (p656188 : Int32) (f656189 : Nat → Int32) (n656190 : Nat) : Option Value → va_W → Nat → Nat → Prop := fun r w dc ds => ∃ (P656532 : List Nat) (F656533 : Nat → va_E) (o656531 : Int32), r = some (.int o656531) ∧ w = va_pl P656532 F656533 ∧ rSub P656183 P656532 ∧ rFr [] P656183 F656184 F656533 ∧ F656533 q656185 = .inr (0, [.ref q656186, .int 0, .int p656187, .int p656188]) ∧ F656533 q656186 = .inl (I .byte, n656190, .inl f656189) ∧ dc ≤ 8 ∧ ds ≤ 64 ∧ gB o656531 0 14 ∧ 0 ≤ o656531.toInt ∧ o656531.toInt ≤ 14
set_option maxRecDepth 100000 in
set_option maxHeartbeats 4000000 in
theorem cp_656193_SpillForgeModel_operation (l : Launch) (hl0 : l.stackTraces = false) (D : va_G) (I : FieldType → ClassId) (P656183 : List Nat) (F656184 : Nat → va_E) (q656185 : Nat) (q656186 : Nat) (p656187 : Int32) (p656188 : Int32) (f656189 : Nat → Int32) (n656190 : Nat) (hmq656185 : q656185 ∈ P656183) (hmq656186 : q656186 ∈ P656183) (heq656185 : F656184 q656185 = .inr (0, [.ref q656186, .int 0, .int p656187, .int p656188])) (heq656186 : F656184 q656186 = .inl (I .byte, n656190, .inl f656189)) (bp656188 : gB p656188 0 1) (bf656189 : gF f656189 (-128) 127) (x656191 : (n656190 : Int) ≤ 2) (x656192 : ((n656190 : Int) ≤ 16777216)) : CtA (gV D I) l yX17_operation cX17_operation 4 (some FieldType.int) 6 132 8 64 [.ref q656185] (va_pl P656183 F656184) (pp_656193_SpillForgeModel_operation D I P656183 F656184 q656185 q656186 p656187 p656188 f656189 n656190) gNA := by
  refine CtA_of hl0 (by decide) (Nat.le_of_ble_eq_true rfl) ?_
  have bp656187 := gB_any p656187
  refine G_ldcK (a := D.2 1000 42) dr_cX17_operation_0 (fun _ _ _ h => gx_vk 42 rfl rfl h) ?_
  have hl42_656193 : (sb_42.length : Int) = 34 := rfl
  refine G_new [.null, .int 0, .int 0, .int 0] dr_cX17_operation_2 (gk_J4 D I) wr_7_43 wr_7_44 wr_1_20 (gfs_J4) (show 0 + 1 ≤ 8 by first | omega | decide) (show 0 + 4 ≤ 64 by first | omega | decide) (fun q656195 => Gp_in (fun P656196 F656197 hq656198 hP656199 e656200 n656201 => ?_))
  refine G_widen (cs' := 1) (sl' := 4) (by omega) (by omega) ?_
  have he656202 : F656197 q656185 = .inr (0, [.ref q656186, .int 0, .int p656187, .int p656188]) := (n656201 q656185 (fun h => hq656198 (h ▸ hmq656185))).trans heq656185
  have he656203 : F656197 q656186 = .inl (I .byte, n656190, .inl f656189) := (n656201 q656186 (fun h => hq656198 (h ▸ hmq656186))).trans heq656186
  have he656204 : F656197 q656195 = .inr (1, [.null, .int 0, .int 0, .int 0]) := e656200
  have hm656205 : q656185 ∈ P656196 := (hP656199 q656185).mpr (Or.inl hmq656185)
  have hm656206 : q656186 ∈ P656196 := (hP656199 q656186).mpr (Or.inl hmq656186)
  have hm656207 : q656195 ∈ P656196 := (hP656199 q656195).mpr (Or.inr rfl)
  have hq656208 : q656195 ∉ P656183 := fun z => hq656198 ((rSub_rf (P := P656183)) q656195 z)
  have hfr656209 : rFr [] P656183 F656184 F656197 := rFr_new (rSub_rf (P := P656183)) hq656198 (rFr_rf (W := []) (P := P656183) (F := F656184)) n656201
  have hsb656210 : rSub P656183 P656196 := rSub_new (rSub_rf (P := P656183)) hP656199
  refine G_dup dr_cX17_operation_5 rfl ?_
  refine Gw_callI (As := []) (gV_ok D I) (cp_640525_StringBuilder_init l hl0 D I P656196 F656197 q656195 0 0 hm656207 he656204 (gB_w (gBl (show Int32.toInt 0 = 0 by decide)) (by decide) (by decide)) (gB_w (gBl (show Int32.toInt 0 = 0 by decide)) (by decide) (by decide))) dr_cX17_operation_6 ⟨wr_7_45, wr_1_20, wr_7_47, by decide, rfl, (Nat.le_of_ble_eq_true rfl), (Nat.le_of_ble_eq_true rfl)⟩ wr_7_46 rfl (show 1 + 1 ≤ 8 by first | omega | decide) (show 4 + 16 ≤ 64 by first | omega | decide) (Nat.le_of_ble_eq_true rfl) (fun r656214 w656215 dc656211 ds656212 hp656213 => ?_)
  obtain ⟨P656217, F656218, q656216, rfl, rfl, hsb656219, hfr656220, he656221, he656222, hm656223, hq656224, hdc, hds⟩ := hp656213
  have hm656225 : q656185 ∈ P656217 := hsb656219 q656185 hm656205
  have hm656226 : q656186 ∈ P656217 := hsb656219 q656186 hm656206
  have hm656227 : q656195 ∈ P656217 := hsb656219 q656195 hm656207
  have hq656228 : q656216 ∉ P656183 := fun z => hq656224 (hsb656210 q656216 z)
  have hsb656229 : rSub P656183 P656217 := rSub_tr hsb656210 hsb656219
  have he656230 : F656218 q656185 = .inr (0, [.ref q656186, .int 0, .int p656187, .int p656188]) := (hfr656220 q656185 hm656205 (nm_c (fun h => hq656208 (h ▸ hmq656185)) nm_n)).trans he656202
  have he656231 : F656218 q656186 = .inl (I .byte, n656190, .inl f656189) := (hfr656220 q656186 hm656206 (nm_c (fun h => hq656208 (h ▸ hmq656186)) nm_n)).trans he656203
  have hfr656232 : rFr [] P656183 F656184 F656218 := rFr_call hsb656210 hfr656209 hfr656220 (fun b hb hn => ⟨nm_n, (nm_c (fun e => hq656208 (e ▸ hb)) nm_n)⟩)
  change G _ _ _ _ _ _ _ _ _ _ _
  refine G_widen (cs' := 2) (sl' := 20) (by omega) (by omega) ?_
  refine G_ldcK (a := D.2 1000 43) dr_cX17_operation_9 (fun _ _ _ h => gx_vk 43 rfl rfl h) ?_
  have hl43_656232 : (sb_43.length : Int) = 1 := rfl
  refine Gw_callV (As := [.ref (D.2 1000 43)]) (gV_ok D I) (cp_640822_StringBuilder_append l hl0 D I P656217 F656218 q656195 q656216 (D.2 1000 43) (D.2 1001 43) sb_43 0 0 (fun _ => 0) 16 hm656227 hm656223 he656221 he656222 (gx_sc 43 rfl rfl) (by omega) (by decide +kernel) (gB_w (gBl (show Int32.toInt 0 = 0 by decide)) (by decide) (by decide)) (gB_w (gBl (show Int32.toInt 0 = 0 by decide)) (by decide) (by decide)) (gF_w gF_0 (by decide) (by decide)) (by have qa0 : Int32.toInt 0 = 0 := (by decide); omega) (by have qa0 : Int32.toInt 0 = 0 := (by decide); omega)) dr_cX17_operation_11 ⟨wr_10_100, wr_1_20, wr_8_143, by decide, rfl, (Nat.le_of_ble_eq_true rfl), (Nat.le_of_ble_eq_true rfl)⟩ wr_8_141 wr_8_142 hm656227 he656221 rfl (show 2 + 0 ≤ 8 by first | omega | decide) (show 20 + 0 ≤ 64 by first | omega | decide) (Nat.le_of_ble_eq_true rfl) (fun r656237 w656238 dc656234 ds656235 hp656236 => ?_) (fun _ _ _ _ _ z => z.elim)
  obtain ⟨F656244, o656239, f656240, rfl, rfl, hfr656246, he656247, he656248, hdc, hds, bo656239, bf656240, x656241, x656242, x656243⟩ := hp656236
  have he656249 : F656244 q656185 = .inr (0, [.ref q656186, .int 0, .int p656187, .int p656188]) := (hfr656246 q656185 hm656225 (nm_c (fun h => hq656208 (h ▸ hmq656185)) (nm_c (fun h => hq656228 (h ▸ hmq656185)) nm_n))).trans he656230
  have he656250 : F656244 q656186 = .inl (I .byte, n656190, .inl f656189) := (hfr656246 q656186 hm656226 (nm_c (fun h => hq656208 (h ▸ hmq656186)) (nm_c (fun h => hq656228 (h ▸ hmq656186)) nm_n))).trans he656231
  have hfr656251 : rFr [] P656183 F656184 F656244 := rFr_call hsb656229 hfr656232 hfr656246 (fun b hb hn => ⟨nm_n, (nm_c (fun e => hq656208 (e ▸ hb)) (nm_c (fun e => hq656228 (e ▸ hb)) nm_n))⟩)
  rw [show Int32.toInt 0 = 0 from by decide] at x656241
  rw [show Int32.toInt 0 = 0 from by decide] at x656242
  rw [show Int32.toInt 0 = 0 from by decide] at x656243
  change G _ _ _ _ _ _ _ (.ref q656195 :: _) _ _ _
  refine G_widen (cs' := 2) (sl' := 20) (by omega) (by omega) ?_
  refine G_aload_n 0 dr_cX17_operation_14 rfl ?_
  refine Gw_callV (As := [.ref q656185]) (gV_ok D I) (cp_640599_StringBuilder_append l hl0 D I P656217 F656244 q656195 q656185 q656216 q656186 0 o656239 p656187 p656188 f656240 16 f656189 n656190 hm656227 hm656225 hm656223 hm656226 he656247 he656249 he656248 he656250 (fun h => hq656228 (h ▸ hmq656186)) (gB_w (gBl (show Int32.toInt 0 = 0 by decide)) (by decide) (by decide)) bo656239 bp656188 bf656240 bf656189 (by have qa0 : Int32.toInt 0 = 0 := (by decide); omega) (by have qa0 : Int32.toInt 0 = 0 := (by decide); omega) (by have qa0 : Int32.toInt 0 = 0 := (by decide); omega)) dr_cX17_operation_15 ⟨wr_10_100, wr_1_20, wr_8_143, by decide, rfl, (Nat.le_of_ble_eq_true rfl), (Nat.le_of_ble_eq_true rfl)⟩ wr_8_141 wr_8_142 hm656227 he656247 rfl (show 2 + 0 ≤ 8 by first | omega | decide) (show 20 + 0 ≤ 64 by first | omega | decide) (Nat.le_of_ble_eq_true rfl) (fun r656255 w656256 dc656252 ds656253 hp656254 => ?_) (fun _ _ _ _ _ z => z.elim)
  obtain ⟨F656262, o656257, f656258, rfl, rfl, hfr656264, he656265, he656266, he656267, he656268, hdc, hds, bo656257, bf656258, x656259, x656260, x656261⟩ := hp656254
  have hfr656269 : rFr [] P656183 F656184 F656262 := rFr_call hsb656229 hfr656251 hfr656264 (fun b hb hn => ⟨nm_n, (nm_c (fun e => hq656208 (e ▸ hb)) (nm_c (fun e => hq656228 (e ▸ hb)) nm_n))⟩)
  change G _ _ _ _ _ _ _ (.ref q656195 :: _) _ _ _
  refine G_widen (cs' := 2) (sl' := 20) (by omega) (by omega) ?_
  refine G_ldcK (a := D.2 1000 43) dr_cX17_operation_18 (fun _ _ _ h => gx_vk 43 rfl rfl h) ?_
  have hl43_656269 : (sb_43.length : Int) = 1 := rfl
  refine Gw_callV (As := [.ref (D.2 1000 43)]) (gV_ok D I) (cp_640822_StringBuilder_append l hl0 D I P656217 F656262 q656195 q656216 (D.2 1000 43) (D.2 1001 43) sb_43 0 o656257 f656258 16 hm656227 hm656223 he656265 he656267 (gx_sc 43 rfl rfl) (by omega) (by decide +kernel) (gB_w (gBl (show Int32.toInt 0 = 0 by decide)) (by decide) (by decide)) bo656257 bf656258 (by have qa0 : Int32.toInt 0 = 0 := (by decide); omega) (by have qa0 : Int32.toInt 0 = 0 := (by decide); omega)) dr_cX17_operation_20 ⟨wr_10_100, wr_1_20, wr_8_143, by decide, rfl, (Nat.le_of_ble_eq_true rfl), (Nat.le_of_ble_eq_true rfl)⟩ wr_8_141 wr_8_142 hm656227 he656265 rfl (show 2 + 0 ≤ 8 by first | omega | decide) (show 20 + 0 ≤ 64 by first | omega | decide) (Nat.le_of_ble_eq_true rfl) (fun r656274 w656275 dc656271 ds656272 hp656273 => ?_) (fun _ _ _ _ _ z => z.elim)
  obtain ⟨F656281, o656276, f656277, rfl, rfl, hfr656283, he656284, he656285, hdc, hds, bo656276, bf656277, x656278, x656279, x656280⟩ := hp656273
  have he656286 : F656281 q656185 = .inr (0, [.ref q656186, .int 0, .int p656187, .int p656188]) := (hfr656283 q656185 hm656225 (nm_c (fun h => hq656208 (h ▸ hmq656185)) (nm_c (fun h => hq656228 (h ▸ hmq656185)) nm_n))).trans he656266
  have he656287 : F656281 q656186 = .inl (I .byte, n656190, .inl f656189) := (hfr656283 q656186 hm656226 (nm_c (fun h => hq656208 (h ▸ hmq656186)) (nm_c (fun h => hq656228 (h ▸ hmq656186)) nm_n))).trans he656268
  have hfr656288 : rFr [] P656183 F656184 F656281 := rFr_call hsb656229 hfr656269 hfr656283 (fun b hb hn => ⟨nm_n, (nm_c (fun e => hq656208 (e ▸ hb)) (nm_c (fun e => hq656228 (e ▸ hb)) nm_n))⟩)
  change G _ _ _ _ _ _ _ (.ref q656195 :: _) _ _ _
  refine G_widen (cs' := 2) (sl' := 20) (by omega) (by omega) ?_
  refine Gw_callV (As := []) (gV_ok D I) (cp_641280_StringBuilder_toString l hl0 D I P656217 F656281 q656195 q656216 0 o656276 f656277 16 hm656227 hm656223 he656284 he656285 (gB_w (gBl (show Int32.toInt 0 = 0 by decide)) (by decide) (by decide)) bo656276 bf656277 (by have qa0 : Int32.toInt 0 = 0 := (by decide); omega) (by have qa0 : Int32.toInt 0 = 0 := (by decide); omega)) dr_cX17_operation_23 ⟨wr_10_101, wr_1_20, wr_8_69, by decide, rfl, (Nat.le_of_ble_eq_true rfl), (Nat.le_of_ble_eq_true rfl)⟩ wr_8_67 wr_8_68 hm656227 he656284 rfl (show 2 + 2 ≤ 8 by first | omega | decide) (show 20 + (o656276.toInt.toNat + 4) ≤ 64 by first | omega | decide) (Nat.le_of_ble_eq_true rfl) (fun r656292 w656293 dc656289 ds656290 hp656291 => ?_) (fun _ _ _ _ _ z => z.elim)
  obtain ⟨P656300, F656301, q656294, q656295, n656296, f656297, rfl, rfl, hsb656302, hfr656303, he656304, he656305, he656306, he656307, hm656308, hq656309, hm656310, hq656311, hdc, hds, bf656297, x656298, x656299⟩ := hp656291
  have hm656312 : q656185 ∈ P656300 := hsb656302 q656185 hm656225
  have hm656313 : q656186 ∈ P656300 := hsb656302 q656186 hm656226
  have hm656314 : q656195 ∈ P656300 := hsb656302 q656195 hm656227
  have hm656315 : q656216 ∈ P656300 := hsb656302 q656216 hm656223
  have hq656316 : q656294 ∉ P656183 := fun z => hq656309 (hsb656229 q656294 z)
  have hq656317 : q656295 ∉ P656183 := fun z => hq656311 (hsb656229 q656295 z)
  have hsb656318 : rSub P656183 P656300 := rSub_tr hsb656229 hsb656302
  have he656319 : F656301 q656185 = .inr (0, [.ref q656186, .int 0, .int p656187, .int p656188]) := (hfr656303 q656185 hm656225 nm_n).trans he656286
  have he656320 : F656301 q656186 = .inl (I .byte, n656190, .inl f656189) := (hfr656303 q656186 hm656226 nm_n).trans he656287
  have hfr656321 : rFr [] P656183 F656184 F656301 := rFr_call hsb656229 hfr656288 hfr656303 (fun b hb hn => ⟨nm_n, nm_n⟩)
  have hne656322 : q656216 ≠ q656295 := fun h => hq656311 (h ▸ hm656223)
  change G _ _ _ _ _ _ _ (.ref q656294 :: _) _ _ _
  refine G_widen (cs' := 4) (sl' := 20 + (o656276.toInt.toNat + 4)) (by omega) (by omega) ?_
  refine Gw_callVk (As := [.ref q656294]) (gV_ok D I) (cp_641729_String_indexOf l hl0 D I P656300 F656301 q656294 q656295 (D.2 1000 42) (D.2 1001 42) sb_42 0 0 f656297 n656296 hm656308 hm656310 he656304 he656307 (gx_sc 42 rfl rfl) (by omega) (by decide +kernel) (gB_w (gBl (show Int32.toInt 0 = 0 by decide)) (by decide) (by decide)) bf656297 (by have qa0 : Int32.toInt 0 = 0 := (by decide); omega) (by have qa0 : Int32.toInt 0 = 0 := (by decide); omega)) dr_cX17_operation_26 ⟨wr_10_102, wr_1_21, wr_8_199, by decide, rfl, (Nat.le_of_ble_eq_true rfl), (Nat.le_of_ble_eq_true rfl)⟩ wr_8_197 wr_8_198 (fun _ _ _ h => ((gx_sc 42 rfl rfl) _ _ _ h).1) (show 4 + 0 ≤ 8 by first | omega | decide) (show 20 + (o656276.toInt.toNat + 4) + 0 ≤ 64 by first | omega | decide) (Nat.le_of_ble_eq_true rfl) (fun r656326 w656327 dc656323 ds656324 hp656325 => ?_) (fun _ _ _ _ _ z => z.elim)
  obtain ⟨o656328, rfl, rfl, hdc, hds, bo656328, x656329, x656330⟩ := hp656325
  change G _ _ _ _ _ _ _ (.int o656328 :: _) _ _ _
  refine G_widen (cs' := 4) (sl' := 20 + (o656276.toInt.toNat + 4) + 0) (by omega) (by omega) ?_
  refine G_istore_n (L' := [(1, .int o656328), (0, .ref q656185)]) dr_cX17_operation_29 (Nat.le_of_ble_eq_true rfl) rfl ?_
  refine G_iload_n 0 dr_cX17_operation_30 rfl ?_
  refine G_if_ge 36 dr_cX17_operation_31 (by decide +kernel) (fun hc656331 => ?_) (fun hc656331 => ?_)
  · have r656332 : 0 ≤ o656328.toInt := gj_leL hc656331 (show Int32.toInt 0 = 0 by decide)
    have bo656328' : gB o656328 0 16777215 := ⟨by omega, by omega⟩
    have x656333 : o656328.toInt ≤ 30 := opA x656243 x656260 x656279 x656299 x656330 (by omega) (by omega) rfl (by omega) (by omega) (by omega) (by omega) (by omega)
    refine G_iconst 1 dr_cX17_operation_36 (by decide +kernel) ?_
    refine G_istore_n (L' := [(2, .int 1), (1, .int o656328), (0, .ref q656185)]) dr_cX17_operation_37 (Nat.le_of_ble_eq_true rfl) rfl ?_
    refine G_iconst 0 dr_cX17_operation_38 (by decide +kernel) ?_
    refine G_istore_n (L' := [(3, .int 0), (2, .int 1), (1, .int o656328), (0, .ref q656185)]) dr_cX17_operation_39 (Nat.le_of_ble_eq_true rfl) rfl ?_
    have hlp40_656509 : ∀ (n40_656509 : Nat) (g656506 : Int32) (g656507 : Int32), gB g656506 0 16777215 → opI g656506 g656507 → g656506.toInt ≤ o656328.toInt → ((16777216 : Int) - g656506.toInt).toNat < n40_656509 → G (gV D I) l (gRm 6 132 8 64) (gMA (gV D I) (pp_656193_SpillForgeModel_operation D I P656183 F656184 q656185 q656186 p656187 p656188 f656189 n656190) gNA 8 64) ky_656193_SpillForgeModel_operation 40 [(3, .int g656506), (2, .int g656507), (1, .int o656328), (0, .ref q656185)] [] (va_pl P656300 F656301) 4 (20 + (o656276.toInt.toNat + 4) + 0) := by
      intro n40_656509
      induction n40_656509 with
      | zero => intro g656506 g656507 bg656506 x656508 x656509 hm40_656509; exact absurd hm40_656509 (Nat.not_lt_zero _)
      | succ n40_656509 ih40_656509 =>
        intro g656506 g656507 bg656506 x656508 x656509 hm40_656509
        have bg656507 := gB_any g656507
        refine G_iload_n 0 dr_cX17_operation_40 rfl ?_
        refine G_iload_n 2 dr_cX17_operation_41 rfl ?_
        refine G_icmp_ge 70 dr_cX17_operation_42 (by decide +kernel) (fun hc656510 => ?_) (fun hc656510 => ?_)
        · have r656511 : o656328.toInt ≤ g656506.toInt := gC_le hc656510
          have bx656512 : gB g656507 1 14 := opI_b x656508 (by omega)
          refine G_iload_n 1 dr_cX17_operation_70 rfl ?_
          exact G_iretA dr_cX17_operation_71 rfl (Nat.le_of_ble_eq_true rfl) (show 20 + (o656276.toInt.toNat + 4) + 0 ≤ 64 by omega) ⟨P656300, F656301, g656507, rfl, rfl, hsb656318, hfr656321, he656319, he656320, (Nat.le_of_ble_eq_true rfl), (by omega), (gB_w bx656512 (by decide) (by decide)), (by have qa0 : Int32.toInt 0 = 0 := (by decide); omega), (by have qa0 : Int32.toInt 0 = 0 := (by decide); omega)⟩
        · have r656513 : g656506.toInt < o656328.toInt := gC_nle hc656510
          have bg656506' : gB g656506 0 16777214 := ⟨by omega, by omega⟩
          have bo656328'' : gB o656328 1 16777215 := ⟨by omega, by omega⟩
          have bx656514 : gB g656507 1 14 := opI_b x656508 (by omega)
          refine G_iload_n 1 dr_cX17_operation_45 rfl ?_
          refine G_ldcK (a := D.2 1000 42) dr_cX17_operation_46 (fun _ _ _ h => gx_vk 42 rfl rfl h) ?_
          have hl42_656514 : (sb_42.length : Int) = 34 := rfl
          refine G_iload_n 0 dr_cX17_operation_48 rfl ?_
          refine Gw_callVk (As := [.int g656506]) (gV_ok D I) (cp_656345_String_charAt l hl0 D I P656300 F656301 (D.2 1000 42) (D.2 1001 42) sb_42 g656506 (gx_sc 42 rfl rfl) (by omega) (by decide +kernel) ⟨by omega, by omega⟩ (by have qa0 : Int32.toInt 0 = 0 := (by decide); omega)) dr_cX17_operation_49 ⟨wr_10_103, wr_1_21, wr_3_70, by decide, rfl, (Nat.le_of_ble_eq_true rfl), (Nat.le_of_ble_eq_true rfl)⟩ wr_3_68 wr_3_69 (fun _ _ _ h => ((gx_sc 42 rfl rfl) _ _ _ h).1) (show 4 + 0 ≤ 8 by first | omega | decide) (show 20 + (o656276.toInt.toNat + 4) + 0 + 0 ≤ 64 by first | omega | decide) (Nat.le_of_ble_eq_true rfl) (fun r656519 w656520 dc656516 ds656517 hp656518 => ?_) (fun _ _ _ _ _ z => z.elim)
          obtain ⟨o656521, rfl, rfl, hdc, hds, bo656521, x656522⟩ := hp656518
          change G _ _ _ _ _ _ _ (.int o656521 :: _) _ _ _
          refine G_widen (cs' := 4) (sl' := 20 + (o656276.toInt.toNat + 4) + 0 + 0) (by omega) (by omega) ?_
          refine G_bipush 32 dr_cX17_operation_52 (by decide +kernel) ?_
          refine G_icmp_ne 61 dr_cX17_operation_54 (by decide +kernel) (fun hc656523 => ?_) (fun hc656523 => ?_)
          · have r656524 : o656521.toInt ≠ 32 := gj_neq hc656523 (show Int32.toInt 32 = 32 by decide)
            refine G_iconst 0 dr_cX17_operation_61 (by decide +kernel) ?_
            refine G_iadd dr_cX17_operation_62 (G_nam fun z656525 hz656525 => ?_)
            have ez656525 : z656525.toInt = g656507.toInt + 0 := by rw [gI_add hz656525 bx656514 (gBl (show Int32.toInt 0 = 0 by decide)) (by decide) (by decide), show Int32.toInt 0 = 0 from by decide]
            have bz656525 : gB z656525 1 14 := gB_add (gI_add hz656525 bx656514 (gBl (show Int32.toInt 0 = 0 by decide)) (by decide) (by decide)) bx656514 (gBl (show Int32.toInt 0 = 0 by decide)) (by decide) (by decide)
            refine G_istore_n (L' := [(2, .int z656525), (3, .int g656506), (1, .int o656328), (0, .ref q656185)]) dr_cX17_operation_63 (Nat.le_of_ble_eq_true rfl) rfl ?_
            obtain ⟨z656526, hz656526⟩ : ∃ z : Int32, z = g656506 + Int32.ofInt 1 := ⟨_, rfl⟩
            have ez656526 : z656526.toInt = g656506.toInt + 1 := gI_inc hz656526 (by decide) bg656506' (by decide) (by decide)
            have bz656526 : gB z656526 1 16777215 := ⟨by omega, by omega⟩
            refine G_iinc (L' := [(3, .int z656526), (2, .int z656525), (1, .int o656328), (0, .ref q656185)]) z656526 1 dr_cX17_operation_64 rfl hz656526.symm (Nat.le_of_ble_eq_true rfl) rfl ?_
            refine G_goto 40 dr_cX17_operation_67 (by decide +kernel) ?_
            exact ih40_656509 z656526 z656525 (gB_w bz656526 (by decide) (by decide)) (by have qa0 : Int32.toInt 0 = 0 := (by decide); have qa1 : Int32.toInt 1 = 1 := (by decide); first | exact opI_st (d := 1) x656508 (by omega) (by omega) (by omega) x656522 (Or.inl ⟨by omega, rfl⟩) | exact opI_st (d := 0) x656508 (by omega) (by omega) (by omega) x656522 (Or.inr ⟨by omega, rfl⟩)) (by have qa0 : Int32.toInt 0 = 0 := (by decide); omega) (by have qa0 : Int32.toInt 0 = 0 := (by decide); omega)
          · have r656527 : o656521.toInt = 32 := gj_eq hc656523 (show Int32.toInt 32 = 32 by decide)
            have bo656521' : gB o656521 32 32 := ⟨by omega, by omega⟩
            refine G_iconst 1 dr_cX17_operation_57 (by decide +kernel) ?_
            refine G_goto 62 dr_cX17_operation_58 (by decide +kernel) ?_
            refine G_iadd dr_cX17_operation_62 (G_nam fun z656528 hz656528 => ?_)
            have ez656528 : z656528.toInt = g656507.toInt + 1 := by rw [gI_add hz656528 bx656514 (gBl (show Int32.toInt 1 = 1 by decide)) (by decide) (by decide), show Int32.toInt 1 = 1 from by decide]
            have bz656528 : gB z656528 2 15 := gB_add (gI_add hz656528 bx656514 (gBl (show Int32.toInt 1 = 1 by decide)) (by decide) (by decide)) bx656514 (gBl (show Int32.toInt 1 = 1 by decide)) (by decide) (by decide)
            refine G_istore_n (L' := [(2, .int z656528), (3, .int g656506), (1, .int o656328), (0, .ref q656185)]) dr_cX17_operation_63 (Nat.le_of_ble_eq_true rfl) rfl ?_
            obtain ⟨z656529, hz656529⟩ : ∃ z : Int32, z = g656506 + Int32.ofInt 1 := ⟨_, rfl⟩
            have ez656529 : z656529.toInt = g656506.toInt + 1 := gI_inc hz656529 (by decide) bg656506' (by decide) (by decide)
            have bz656529 : gB z656529 1 16777215 := ⟨by omega, by omega⟩
            refine G_iinc (L' := [(3, .int z656529), (2, .int z656528), (1, .int o656328), (0, .ref q656185)]) z656529 1 dr_cX17_operation_64 rfl hz656529.symm (Nat.le_of_ble_eq_true rfl) rfl ?_
            refine G_goto 40 dr_cX17_operation_67 (by decide +kernel) ?_
            exact ih40_656509 z656529 z656528 (gB_w bz656529 (by decide) (by decide)) (by have qa0 : Int32.toInt 0 = 0 := (by decide); have qa1 : Int32.toInt 1 = 1 := (by decide); first | exact opI_st (d := 1) x656508 (by omega) (by omega) (by omega) x656522 (Or.inl ⟨by omega, rfl⟩) | exact opI_st (d := 0) x656508 (by omega) (by omega) (by omega) x656522 (Or.inr ⟨by omega, rfl⟩)) (by have qa0 : Int32.toInt 0 = 0 := (by decide); omega) (by have qa0 : Int32.toInt 0 = 0 := (by decide); omega)
    exact hlp40_656509 (((16777216 : Int) - 0).toNat + 1) 0 1 (gB_w (gBl (show Int32.toInt 0 = 0 by decide)) (by decide) (by decide)) opI_0 (by have qa0 : Int32.toInt 0 = 0 := (by decide); have qa1 : Int32.toInt 1 = 1 := (by decide); omega) (Nat.lt_succ_self _)
  · have r656530 : o656328.toInt < 0 := gj_nleL hc656331 (show Int32.toInt 0 = 0 by decide)
    have bo656328' : gB o656328 (-2147483646) (-1) := ⟨by omega, by omega⟩
    refine G_iconst 0 dr_cX17_operation_34 (by decide +kernel) ?_
    exact G_iretA dr_cX17_operation_35 rfl (Nat.le_of_ble_eq_true rfl) (show 20 + (o656276.toInt.toNat + 4) + 0 ≤ 64 by omega) ⟨P656300, F656301, 0, rfl, rfl, hsb656318, hfr656321, he656319, he656320, (Nat.le_of_ble_eq_true rfl), (by omega), (gB_w (gBl (show Int32.toInt 0 = 0 by decide)) (by decide) (by decide)), (by have qa0 : Int32.toInt 0 = 0 := (by decide); omega), (by have qa0 : Int32.toInt 0 = 0 := (by decide); omega)⟩
