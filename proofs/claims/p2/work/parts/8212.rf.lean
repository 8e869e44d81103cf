theorem dr_cX14_breaks_0 : decode cX14_breaks 0 = .ok (.aload_n 0, 1) := by decide +kernel
theorem dr_cX14_breaks_1 : decode cX14_breaks 1 = .ok (.getfield 17, 3) := by decide +kernel
theorem wr_9_44 : (Jvm.Cond.fieldLink "SpillForgeModel$Reader" (17 : Nat) "SpillForgeModel$Reader" "rulePlace" "I") ∈ gw := gw_9 44 rfl rfl
theorem dr_cX14_breaks_4 : decode cX14_breaks 4 = .ok (.ifCond .lt 27, 3) := by decide +kernel
theorem dr_cX14_breaks_31 : decode cX14_breaks 31 = .ok (.aload_n 0, 1) := by decide +kernel
theorem dr_cX14_breaks_32 : decode cX14_breaks 32 = .ok (.iload_n 2, 1) := by decide +kernel
theorem dr_cX14_breaks_33 : decode cX14_breaks 33 = .ok (.putfield 17, 3) := by decide +kernel
theorem dr_cX14_breaks_36 : decode cX14_breaks 36 = .ok (.aload_n 0, 1) := by decide +kernel
theorem dr_cX14_breaks_37 : decode cX14_breaks 37 = .ok (.iload_n 1, 1) := by decide +kernel
theorem dr_cX14_breaks_38 : decode cX14_breaks 38 = .ok (.putfield 140, 3) := by decide +kernel
theorem wr_9_46 : (Jvm.Cond.fieldLink "SpillForgeModel$Reader" (140 : Nat) "SpillForgeModel$Reader" "rule" "I") ∈ gw := gw_9 46 rfl rfl
theorem dr_cX14_breaks_41 : decode cX14_breaks 41 = .ok (.return_, 1) := by decide +kernel
theorem dr_cX14_breaks_7 : decode cX14_breaks 7 = .ok (.iload_n 2, 1) := by decide +kernel
theorem dr_cX14_breaks_8 : decode cX14_breaks 8 = .ok (.aload_n 0, 1) := by decide +kernel
theorem dr_cX14_breaks_9 : decode cX14_breaks 9 = .ok (.getfield 17, 3) := by decide +kernel
theorem dr_cX14_breaks_12 : decode cX14_breaks 12 = .ok (.if_icmp .lt 19, 3) := by decide +kernel
theorem dr_cX14_breaks_15 : decode cX14_breaks 15 = .ok (.iload_n 2, 1) := by decide +kernel
theorem dr_cX14_breaks_16 : decode cX14_breaks 16 = .ok (.aload_n 0, 1) := by decide +kernel
theorem dr_cX14_breaks_17 : decode cX14_breaks 17 = .ok (.getfield 17, 3) := by decide +kernel
theorem dr_cX14_breaks_20 : decode cX14_breaks 20 = .ok (.if_icmp .ne 21, 3) := by decide +kernel
theorem dr_cX14_breaks_23 : decode cX14_breaks 23 = .ok (.iload_n 1, 1) := by decide +kernel
theorem dr_cX14_breaks_24 : decode cX14_breaks 24 = .ok (.aload_n 0, 1) := by decide +kernel
theorem dr_cX14_breaks_25 : decode cX14_breaks 25 = .ok (.getfield 140, 3) := by decide +kernel
theorem dr_cX14_breaks_28 : decode cX14_breaks 28 = .ok (.if_icmp .ge 13, 3) := by decide +kernel
theorem dr_cX14_operand_0 : decode cX14_operand 0 = .ok (.aload_n 0, 1) := by decide +kernel
theorem dr_cX14_operand_1 : decode cX14_operand 1 = .ok (.getfield 38, 3) := by decide +kernel
theorem dr_cX14_operand_4 : decode cX14_operand 4 = .ok (.iconst 2, 1) := by decide +kernel
theorem dr_cX14_operand_5 : decode cX14_operand 5 = .ok (.if_icmp .ne 7, 3) := by decide +kernel
theorem dr_cX14_operand_12 : decode cX14_operand 12 = .ok (.iconst 0, 1) := by decide +kernel
theorem dr_cX14_operand_13 : decode cX14_operand 13 = .ok (.istore_n 3, 1) := by decide +kernel
theorem dr_cX14_operand_14 : decode cX14_operand 14 = .ok (.iload_n 3, 1) := by decide +kernel
theorem dr_cX14_operand_15 : decode cX14_operand 15 = .ok (.ifCond .ne 16, 3) := by decide +kernel
theorem dr_cX14_operand_18 : decode cX14_operand 18 = .ok (.aload_n 0, 1) := by decide +kernel
theorem dr_cX14_operand_19 : decode cX14_operand 19 = .ok (.getfield 38, 3) := by decide +kernel
theorem dr_cX14_operand_22 : decode cX14_operand 22 = .ok (.iconst 4, 1) := by decide +kernel
theorem dr_cX14_operand_23 : decode cX14_operand 23 = .ok (.if_icmp .eq 8, 3) := by decide +kernel
theorem dr_cX14_operand_31 : decode cX14_operand 31 = .ok (.iload_n 2, 1) := by decide +kernel
theorem dr_cX14_operand_32 : decode cX14_operand 32 = .ok (.ifCond .eq 19, 3) := by decide +kernel
theorem dr_cX14_operand_51 : decode cX14_operand 51 = .ok (.aload_n 1, 1) := by decide +kernel
theorem dr_cX14_operand_52 : decode cX14_operand 52 = .ok (.aload_n 0, 1) := by decide +kernel
theorem dr_cX14_operand_53 : decode cX14_operand 53 = .ok (.getfield 80, 3) := by decide +kernel
theorem dr_cX14_operand_56 : decode cX14_operand 56 = .ok (.putfield 214, 3) := by decide +kernel
theorem wr_9_187 : (Jvm.Cond.fieldLink "SpillForgeModel$Reader" (214 : Nat) "SpillForgeModel$Row" "a" "I") ∈ gw := gw_9 187 rfl rfl
theorem dr_cX14_operand_59 : decode cX14_operand 59 = .ok (.aload_n 1, 1) := by decide +kernel
theorem dr_cX14_operand_60 : decode cX14_operand 60 = .ok (.iload_n 3, 1) := by decide +kernel
theorem dr_cX14_operand_61 : decode cX14_operand 61 = .ok (.putfield 217, 3) := by decide +kernel
theorem wr_9_198 : (Jvm.Cond.fieldLink "SpillForgeModel$Reader" (217 : Nat) "SpillForgeModel$Row" "regA" "Z") ∈ gw := gw_9 198 rfl rfl
theorem dr_cX14_operand_64 : decode cX14_operand 64 = .ok (.aload_n 0, 1) := by decide +kernel
theorem dr_cX14_operand_65 : decode cX14_operand 65 = .ok (.invokevirtual 35, 3) := by decide +kernel
theorem dr_cX14_operand_68 : decode cX14_operand 68 = .ok (.return_, 1) := by decide +kernel
theorem dr_cX14_operand_35 : decode cX14_operand 35 = .ok (.aload_n 1, 1) := by decide +kernel
theorem dr_cX14_operand_36 : decode cX14_operand 36 = .ok (.aload_n 0, 1) := by decide +kernel
theorem dr_cX14_operand_37 : decode cX14_operand 37 = .ok (.getfield 80, 3) := by decide +kernel
theorem dr_cX14_operand_40 : decode cX14_operand 40 = .ok (.putfield 205, 3) := by decide +kernel
theorem wr_9_191 : (Jvm.Cond.fieldLink "SpillForgeModel$Reader" (205 : Nat) "SpillForgeModel$Row" "b" "I") ∈ gw := gw_9 191 rfl rfl
theorem dr_cX14_operand_43 : decode cX14_operand 43 = .ok (.aload_n 1, 1) := by decide +kernel
theorem dr_cX14_operand_44 : decode cX14_operand 44 = .ok (.iload_n 3, 1) := by decide +kernel
theorem dr_cX14_operand_45 : decode cX14_operand 45 = .ok (.putfield 210, 3) := by decide +kernel
theorem wr_9_201 : (Jvm.Cond.fieldLink "SpillForgeModel$Reader" (210 : Nat) "SpillForgeModel$Row" "regB" "Z") ∈ gw := gw_9 201 rfl rfl
theorem dr_cX14_operand_48 : decode cX14_operand 48 = .ok (.goto 16, 3) := by decide +kernel
theorem dr_cX14_operand_26 : decode cX14_operand 26 = .ok (.aload_n 0, 1) := by decide +kernel
theorem dr_cX14_operand_27 : decode cX14_operand 27 = .ok (.invokevirtual 136, 3) := by decide +kernel
theorem dr_cX14_operand_30 : decode cX14_operand 30 = .ok (.athrow, 1) := by decide +kernel
theorem dr_cX14_operand_8 : decode cX14_operand 8 = .ok (.iconst 1, 1) := by decide +kernel
theorem dr_cX14_operand_9 : decode cX14_operand 9 = .ok (.goto 4, 3) := by decide +kernel
theorem dr_cX17_operation_0 : decode cX17_operation 0 = .ok (.ldc 3, 2) := by decide +kernel
theorem dr_cX17_operation_2 : decode cX17_operation 2 = .ok (.new 5, 3) := by decide +kernel
theorem wr_7_43 : (Jvm.Cond.classLink "SpillForgeModel" (5 : Nat) "java/lang/StringBuilder") ∈ gw := gw_7 43 rfl rfl
theorem dr_cX17_operation_5 : decode cX17_operation 5 = .ok (.dup, 1) := by decide +kernel
theorem dr_cX17_operation_6 : decode cX17_operation 6 = .ok (.invokespecial 7, 3) := by decide +kernel
theorem wr_7_45 : (Jvm.Cond.methodLink "SpillForgeModel" (7 : Nat) ({ cls := "java/lang/StringBuilder", name := "<init>", desc := "()V" } : Jvm.MethodName)) ∈ gw := gw_7 45 rfl rfl
theorem dr_cX17_operation_9 : decode cX17_operation 9 = .ok (.ldc 11, 2) := by decide +kernel
theorem dr_cX17_operation_11 : decode cX17_operation 11 = .ok (.invokevirtual 13, 3) := by decide +kernel
theorem wr_10_100 : (Jvm.Cond.methodLink "SpillForgeModel" (13 : Nat) ({ cls := "java/lang/StringBuilder", name := "append", desc := "(Ljava/lang/String;)Ljava/lang/StringBuilder;" } : Jvm.MethodName)) ∈ gw := gw_10 100 rfl rfl
theorem dr_cX17_operation_14 : decode cX17_operation 14 = .ok (.aload_n 0, 1) := by decide +kernel
theorem dr_cX17_operation_15 : decode cX17_operation 15 = .ok (.invokevirtual 13, 3) := by decide +kernel
theorem dr_cX17_operation_18 : decode cX17_operation 18 = .ok (.ldc 11, 2) := by decide +kernel
theorem dr_cX17_operation_20 : decode cX17_operation 20 = .ok (.invokevirtual 13, 3) := by decide +kernel
theorem dr_cX17_operation_23 : decode cX17_operation 23 = .ok (.invokevirtual 17, 3) := by decide +kernel
theorem wr_10_101 : (Jvm.Cond.methodLink "SpillForgeModel" (17 : Nat) ({ cls := "java/lang/StringBuilder", name := "toString", desc := "()Ljava/lang/String;" } : Jvm.MethodName)) ∈ gw := gw_10 101 rfl rfl
theorem dr_cX17_operation_26 : decode cX17_operation 26 = .ok (.invokevirtual 21, 3) := by decide +kernel
theorem wr_10_102 : (Jvm.Cond.methodLink "SpillForgeModel" (21 : Nat) ({ cls := "java/lang/String", name := "indexOf", desc := "(Ljava/lang/String;)I" } : Jvm.MethodName)) ∈ gw := gw_10 102 rfl rfl
theorem dr_cX17_operation_29 : decode cX17_operation 29 = .ok (.istore_n 1, 1) := by decide +kernel
theorem dr_cX17_operation_30 : decode cX17_operation 30 = .ok (.iload_n 1, 1) := by decide +kernel
theorem dr_cX17_operation_31 : decode cX17_operation 31 = .ok (.ifCond .ge 5, 3) := by decide +kernel
theorem dr_cX17_operation_36 : decode cX17_operation 36 = .ok (.iconst 1, 1) := by decide +kernel
theorem dr_cX17_operation_37 : decode cX17_operation 37 = .ok (.istore_n 2, 1) := by decide +kernel
theorem dr_cX17_operation_38 : decode cX17_operation 38 = .ok (.iconst 0, 1) := by decide +kernel
theorem dr_cX17_operation_39 : decode cX17_operation 39 = .ok (.istore_n 3, 1) := by decide +kernel
theorem dr_cX17_operation_40 : decode cX17_operation 40 = .ok (.iload_n 3, 1) := by decide +kernel
theorem dr_cX17_operation_41 : decode cX17_operation 41 = .ok (.iload_n 1, 1) := by decide +kernel
theorem dr_cX17_operation_42 : decode cX17_operation 42 = .ok (.if_icmp .ge 28, 3) := by decide +kernel
theorem dr_cX17_operation_70 : decode cX17_operation 70 = .ok (.iload_n 2, 1) := by decide +kernel
theorem dr_cX17_operation_71 : decode cX17_operation 71 = .ok (.ireturn, 1) := by decide +kernel
theorem dr_cX17_operation_45 : decode cX17_operation 45 = .ok (.iload_n 2, 1) := by decide +kernel
theorem dr_cX17_operation_46 : decode cX17_operation 46 = .ok (.ldc 3, 2) := by decide +kernel
theorem dr_cX17_operation_48 : decode cX17_operation 48 = .ok (.iload_n 3, 1) := by decide +kernel
theorem dr_cX17_operation_49 : decode cX17_operation 49 = .ok (.invokevirtual 27, 3) := by decide +kernel
theorem wr_10_103 : (Jvm.Cond.methodLink "SpillForgeModel" (27 : Nat) ({ cls := "java/lang/String", name := "charAt", desc := "(I)C" } : Jvm.MethodName)) ∈ gw := gw_10 103 rfl rfl
theorem wr_3_70 : (Jvm.Cond.code ({ cls := "java/lang/String", name := "charAt", desc := "(I)C" } : Jvm.MethodName) prog_34_method_56_code (2 : Nat) (Option.some Jvm.ClassFile.FieldType.char)) ∈ gw := gw_3 70 rfl rfl
theorem wr_3_68 : (Jvm.Cond.instanceMethod ({ cls := "java/lang/String", name := "charAt", desc := "(I)C" } : Jvm.MethodName)) ∈ gw := gw_3 68 rfl rfl
theorem wr_3_69 : (Jvm.Cond.selects "java/lang/String" ({ cls := "java/lang/String", name := "charAt", desc := "(I)C" } : Jvm.MethodName) ({ cls := "java/lang/String", name := "charAt", desc := "(I)C" } : Jvm.MethodName)) ∈ gw := gw_3 69 rfl rfl
theorem dr_cX17_operation_52 : decode cX17_operation 52 = .ok (.bipush 32, 2) := by decide +kernel
theorem dr_cX17_operation_54 : decode cX17_operation 54 = .ok (.if_icmp .ne 7, 3) := by decide +kernel
theorem dr_cX17_operation_61 : decode cX17_operation 61 = .ok (.iconst 0, 1) := by decide +kernel
theorem dr_cX17_operation_62 : decode cX17_operation 62 = .ok (.iadd, 1) := by decide +kernel
theorem dr_cX17_operation_63 : decode cX17_operation 63 = .ok (.istore_n 2, 1) := by decide +kernel
theorem dr_cX17_operation_64 : decode cX17_operation 64 = .ok (.iinc 3 1, 3) := by decide +kernel
theorem dr_cX17_operation_67 : decode cX17_operation 67 = .ok (.goto (-27), 3) := by decide +kernel
theorem dr_cX17_operation_57 : decode cX17_operation 57 = .ok (.iconst 1, 1) := by decide +kernel
theorem dr_cX17_operation_58 : decode cX17_operation 58 = .ok (.goto 4, 3) := by decide +kernel
theorem dr_cX17_operation_34 : decode cX17_operation 34 = .ok (.iconst 0, 1) := by decide +kernel
theorem dr_cX17_operation_35 : decode cX17_operation 35 = .ok (.ireturn, 1) := by decide +kernel
abbrev ky_655877_Reader_breaks : gKey := (cX14_breaks, 3, "SpillForgeModel$Reader", none, [], "breaks", fun _ _ => True)
def pp_655877_Reader_breaks (D : va_G) (I : FieldType → ClassId) (P655857 : List Nat) (F655858 : Nat → va_E) (q655859 : Nat) (q655860 : Nat) (p655861 : Int32) (p655862 : Int32) (p655863 : Int32) (p655864 : Int32) (p655865 : Int32) (p655866 : Int32) (p655867 : Int32) (p655868 : Int32) (qo655869 : Nat) (p655870 : Int32) (p655871 : Int32) (p655872 : Int32) (qo655873 : Nat) (qo655874 : Nat) (p655875 : Int32) (f655876 : Nat → Int32) : Option Value → va_W → Nat → Nat → Prop := fun r w dc ds => ∃ (F655929 : Nat → va_E) (o655926 : Int32) (o655927 : Int32), r = none ∧ w = va_pl P655857 F655929 ∧ rFr [q655859] P655857 F655858 F655929 ∧ F655929 q655859 = .inr (19, [.ref q655860, .int p655863, .int p655864, .int p655865, .int p655866, .int p655867, .int p655868, .ref qo655869, .int o655926, .int o655927, .int p655872, .ref qo655873, .ref qo655874, .int p655875]) ∧ F655929 q655860 = .inl (I .byte, 8192, .inl f655876) ∧ dc ≤ 0 ∧ ds ≤ 0 ∧ gB o655926 0 8192 ∧ gB o655927 0 4
set_option maxRecDepth 100000 in
set_option maxHeartbeats 4000000 in
theorem cp_655877_Reader_breaks (l : Launch) (hl0 : l.stackTraces = false) (D : va_G) (I : FieldType → ClassId) (P655857 : List Nat) (F655858 : Nat → va_E) (q655859 : Nat) (q655860 : Nat) (p655861 : Int32) (p655862 : Int32) (p655863 : Int32) (p655864 : Int32) (p655865 : Int32) (p655866 : Int32) (p655867 : Int32) (p655868 : Int32) (qo655869 : Nat) (p655870 : Int32) (p655871 : Int32) (p655872 : Int32) (qo655873 : Nat) (qo655874 : Nat) (p655875 : Int32) (f655876 : Nat → Int32) (hmq655859 : q655859 ∈ P655857) (hmq655860 : q655860 ∈ P655857) (heq655859 : F655858 q655859 = .inr (19, [.ref q655860, .int p655863, .int p655864, .int p655865, .int p655866, .int p655867, .int p655868, .ref qo655869, .int p655870, .int p655871, .int p655872, .ref qo655873, .ref qo655874, .int p655875])) (heq655860 : F655858 q655860 = .inl (I .byte, 8192, .inl f655876)) (bp655861 : gB p655861 0 4) (bp655862 : gB p655862 0 8192) (bp655863 : gB p655863 0 8192) (bp655864 : gB p655864 0 8192) (bp655865 : gB p655865 0 6) (bp655866 : gB p655866 0 8192) (bp655868 : gB p655868 0 6) (bp655870 : gB p655870 (-1) 8192) (bp655871 : gB p655871 0 4) (bp655872 : gB p655872 0 1000000) (bp655875 : gB p655875 0 1000000) (bf655876 : gF f655876 (-128) 127) : CtA (gV D I) l yX14_breaks cX14_breaks 3 none 0 0 0 0 [.ref q655859, .int p655861, .int p655862] (va_pl P655857 F655858) (pp_655877_Reader_breaks D I P655857 F655858 q655859 q655860 p655861 p655862 p655863 p655864 p655865 p655866 p655867 p655868 qo655869 p655870 p655871 p655872 qo655873 qo655874 p655875 f655876) gNA := by
  refine CtA_of hl0 (by decide) (Nat.le_of_ble_eq_true rfl) ?_
  have bp655867 := gB_any p655867
  refine G_aload_n 0 dr_cX14_breaks_0 rfl ?_
  refine Gp_get 8 hmq655859 heq655859 dr_cX14_breaks_1 (gk_X14 D I) (Nat.le_of_ble_eq_true rfl) wr_9_44 rfl ?_
  refine G_if_lt 31 dr_cX14_breaks_4 (by decide +kernel) (fun hc655878 => ?_) (fun hc655878 => ?_)
  · have r655879 : p655870.toInt < 0 := gj_lt hc655878 (show Int32.toInt 0 = 0 by decide)
    have bp655870' : gB p655870 (-1) (-1) := ⟨by omega, by omega⟩
    refine G_aload_n 0 dr_cX14_breaks_31 rfl ?_
    refine G_iload_n 2 dr_cX14_breaks_32 rfl ?_
    refine Gp_put 8 hmq655859 heq655859 dr_cX14_breaks_33 (gk_X14 D I) (Nat.le_of_ble_eq_true rfl) wr_9_44 rfl rfl rfl (Nat.le_of_ble_eq_true rfl) (fun F655880 e655881 n655882 => ?_)
    have he655883 : F655880 q655860 = .inl (I .byte, 8192, .inl f655876) := (n655882 q655860 (rn_ao heq655860 heq655859)).trans heq655860
    have he655884 : F655880 q655859 = .inr (19, [.ref q655860, .int p655863, .int p655864, .int p655865, .int p655866, .int p655867, .int p655868, .ref qo655869, .int p655862, .int p655871, .int p655872, .ref qo655873, .ref qo655874, .int p655875]) := e655881
    have hfr655885 : rFr [q655859] P655857 F655858 F655880 := rFr_put (rFr_rf (W := []) (P := P655857) (F := F655858)) n655882
    refine G_aload_n 0 dr_cX14_breaks_36 rfl ?_
    refine G_iload_n 1 dr_cX14_breaks_37 rfl ?_
    refine Gp_put 9 hmq655859 he655884 dr_cX14_breaks_38 (gk_X14 D I) (Nat.le_of_ble_eq_true rfl) wr_9_46 rfl rfl rfl (Nat.le_of_ble_eq_true rfl) (fun F655886 e655887 n655888 => ?_)
    have he655889 : F655886 q655860 = .inl (I .byte, 8192, .inl f655876) := (n655888 q655860 (rn_ao he655883 he655884)).trans he655883
    have he655890 : F655886 q655859 = .inr (19, [.ref q655860, .int p655863, .int p655864, .int p655865, .int p655866, .int p655867, .int p655868, .ref qo655869, .int p655862, .int p655861, .int p655872, .ref qo655873, .ref qo655874, .int p655875]) := e655887
    have hfr655891 : rFr [q655859] P655857 F655858 F655886 := rFr_put' List.mem_cons_self hfr655885 n655888
    exact G_vretA dr_cX14_breaks_41 rfl (Nat.le_of_ble_eq_true rfl) (Nat.le_of_ble_eq_true rfl) ⟨F655886, p655862, p655861, rfl, rfl, hfr655891, he655890, he655889, (Nat.le_of_ble_eq_true rfl), (Nat.le_of_ble_eq_true rfl), bp655862, bp655861⟩
  · have r655892 : 0 ≤ p655870.toInt := gj_nlt hc655878 (show Int32.toInt 0 = 0 by decide)
    have bp655870' : gB p655870 0 8192 := ⟨by omega, by omega⟩
    refine G_iload_n 2 dr_cX14_breaks_7 rfl ?_
    refine G_aload_n 0 dr_cX14_breaks_8 rfl ?_
    refine Gp_get 8 hmq655859 heq655859 dr_cX14_breaks_9 (gk_X14 D I) (Nat.le_of_ble_eq_true rfl) wr_9_44 rfl ?_
    refine G_icmp_lt 31 dr_cX14_breaks_12 (by decide +kernel) (fun hc655893 => ?_) (fun hc655893 => ?_)
    · have r655894 : p655862.toInt < p655870.toInt := gC_lt hc655893
      have bp655862' : gB p655862 0 8191 := ⟨by omega, by omega⟩
      have bp655870'' : gB p655870 1 8192 := ⟨by omega, by omega⟩
      refine G_aload_n 0 dr_cX14_breaks_31 rfl ?_
      refine G_iload_n 2 dr_cX14_breaks_32 rfl ?_
      refine Gp_put 8 hmq655859 heq655859 dr_cX14_breaks_33 (gk_X14 D I) (Nat.le_of_ble_eq_true rfl) wr_9_44 rfl rfl rfl (Nat.le_of_ble_eq_true rfl) (fun F655895 e655896 n655897 => ?_)
      have he655898 : F655895 q655860 = .inl (I .byte, 8192, .inl f655876) := (n655897 q655860 (rn_ao heq655860 heq655859)).trans heq655860
      have he655899 : F655895 q655859 = .inr (19, [.ref q655860, .int p655863, .int p655864, .int p655865, .int p655866, .int p655867, .int p655868, .ref qo655869, .int p655862, .int p655871, .int p655872, .ref qo655873, .ref qo655874, .int p655875]) := e655896
      have hfr655900 : rFr [q655859] P655857 F655858 F655895 := rFr_put (rFr_rf (W := []) (P := P655857) (F := F655858)) n655897
      refine G_aload_n 0 dr_cX14_breaks_36 rfl ?_
      refine G_iload_n 1 dr_cX14_breaks_37 rfl ?_
      refine Gp_put 9 hmq655859 he655899 dr_cX14_breaks_38 (gk_X14 D I) (Nat.le_of_ble_eq_true rfl) wr_9_46 rfl rfl rfl (Nat.le_of_ble_eq_true rfl) (fun F655901 e655902 n655903 => ?_)
      have he655904 : F655901 q655860 = .inl (I .byte, 8192, .inl f655876) := (n655903 q655860 (rn_ao he655898 he655899)).trans he655898
      have he655905 : F655901 q655859 = .inr (19, [.ref q655860, .int p655863, .int p655864, .int p655865, .int p655866, .int p655867, .int p655868, .ref qo655869, .int p655862, .int p655861, .int p655872, .ref qo655873, .ref qo655874, .int p655875]) := e655902
      have hfr655906 : rFr [q655859] P655857 F655858 F655901 := rFr_put' List.mem_cons_self hfr655900 n655903
      exact G_vretA dr_cX14_breaks_41 rfl (Nat.le_of_ble_eq_true rfl) (Nat.le_of_ble_eq_true rfl) ⟨F655901, p655862, p655861, rfl, rfl, hfr655906, he655905, he655904, (Nat.le_of_ble_eq_true rfl), (Nat.le_of_ble_eq_true rfl), (gB_w bp655862' (by decide) (by decide)), bp655861⟩
    · have r655907 : p655870.toInt ≤ p655862.toInt := gC_nlt hc655893
      refine G_iload_n 2 dr_cX14_breaks_15 rfl ?_
      refine G_aload_n 0 dr_cX14_breaks_16 rfl ?_
      refine Gp_get 8 hmq655859 heq655859 dr_cX14_breaks_17 (gk_X14 D I) (Nat.le_of_ble_eq_true rfl) wr_9_44 rfl ?_
      refine G_icmp_ne 41 dr_cX14_breaks_20 (by decide +kernel) (fun hc655908 => ?_) (fun hc655908 => ?_)
      · have r655909 : p655862.toInt ≠ p655870.toInt := gC_ne hc655908
        exact G_vretA dr_cX14_breaks_41 rfl (Nat.le_of_ble_eq_true rfl) (Nat.le_of_ble_eq_true rfl) ⟨F655858, p655870, p655871, rfl, rfl, (rFr_v (rFr_rf (W := []) (P := P655857) (F := F655858)) (fun b hn => nm_n)), heq655859, heq655860, (Nat.le_of_ble_eq_true rfl), (Nat.le_of_ble_eq_true rfl), bp655870', bp655871⟩
      · have r655910 : p655862.toInt = p655870.toInt := gC_eq hc655908
        refine G_iload_n 1 dr_cX14_breaks_23 rfl ?_
        refine G_aload_n 0 dr_cX14_breaks_24 rfl ?_
        refine Gp_get 9 hmq655859 heq655859 dr_cX14_breaks_25 (gk_X14 D I) (Nat.le_of_ble_eq_true rfl) wr_9_46 rfl ?_
        refine G_icmp_ge 41 dr_cX14_breaks_28 (by decide +kernel) (fun hc655911 => ?_) (fun hc655911 => ?_)
        · have r655912 : p655871.toInt ≤ p655861.toInt := gC_le hc655911
          exact G_vretA dr_cX14_breaks_41 rfl (Nat.le_of_ble_eq_true rfl) (Nat.le_of_ble_eq_true rfl) ⟨F655858, p655870, p655871, rfl, rfl, (rFr_v (rFr_rf (W := []) (P := P655857) (F := F655858)) (fun b hn => nm_n)), heq655859, heq655860, (Nat.le_of_ble_eq_true rfl), (Nat.le_of_ble_eq_true rfl), bp655870', bp655871⟩
        · have r655913 : p655861.toInt < p655871.toInt := gC_nle hc655911
          have bp655861' : gB p655861 0 3 := ⟨by omega, by omega⟩
          have bp655871' : gB p655871 1 4 := ⟨by omega, by omega⟩
          refine G_aload_n 0 dr_cX14_breaks_31 rfl ?_
          refine G_iload_n 2 dr_cX14_breaks_32 rfl ?_
          refine Gp_put 8 hmq655859 heq655859 dr_cX14_breaks_33 (gk_X14 D I) (Nat.le_of_ble_eq_true rfl) wr_9_44 rfl rfl rfl (Nat.le_of_ble_eq_true rfl) (fun F655914 e655915 n655916 => ?_)
          have he655917 : F655914 q655860 = .inl (I .byte, 8192, .inl f655876) := (n655916 q655860 (rn_ao heq655860 heq655859)).trans heq655860
          have he655918 : F655914 q655859 = .inr (19, [.ref q655860, .int p655863, .int p655864, .int p655865, .int p655866, .int p655867, .int p655868, .ref qo655869, .int p655862, .int p655871, .int p655872, .ref qo655873, .ref qo655874, .int p655875]) := e655915
          have hfr655919 : rFr [q655859] P655857 F655858 F655914 := rFr_put (rFr_rf (W := []) (P := P655857) (F := F655858)) n655916
          refine G_aload_n 0 dr_cX14_breaks_36 rfl ?_
          refine G_iload_n 1 dr_cX14_breaks_37 rfl ?_
          refine Gp_put 9 hmq655859 he655918 dr_cX14_breaks_38 (gk_X14 D I) (Nat.le_of_ble_eq_true rfl) wr_9_46 rfl rfl rfl (Nat.le_of_ble_eq_true rfl) (fun F655920 e655921 n655922 => ?_)
          have he655923 : F655920 q655860 = .inl (I .byte, 8192, .inl f655876) := (n655922 q655860 (rn_ao he655917 he655918)).trans he655917
          have he655924 : F655920 q655859 = .inr (19, [.ref q655860, .int p655863, .int p655864, .int p655865, .int p655866, .int p655867, .int p655868, .ref qo655869, .int p655862, .int p655861, .int p655872, .ref qo655873, .ref qo655874, .int p655875]) := e655921
          have hfr655925 : rFr [q655859] P655857 F655858 F655920 := rFr_put' List.mem_cons_self hfr655919 n655922
          exact G_vretA dr_cX14_breaks_41 rfl (Nat.le_of_ble_eq_true rfl) (Nat.le_of_ble_eq_true rfl) ⟨F655920, p655862, p655861, rfl, rfl, hfr655925, he655924, he655923, (Nat.le_of_ble_eq_true rfl), (Nat.le_of_ble_eq_true rfl), bp655862, (gB_w bp655861' (by decide) (by decide))⟩
abbrev ky_655965_Reader_operand : gKey := (cX14_operand, 4, "SpillForgeModel$Reader", none, [], "operand", fun _ _ => True)
def pp_655965_Reader_operand (D : va_G) (I : FieldType → ClassId) (P655930 : List Nat) (F655931 : Nat → va_E) (q655932 : Nat) (q655933 : Nat) (q655934 : Nat) (p655935 : Int32) (p655936 : Int32) (p655937 : Int32) (p655938 : Int32) (p655939 : Int32) (p655940 : Int32) (p655941 : Int32) (qo655942 : Nat) (p655943 : Int32) (p655944 : Int32) (p655945 : Int32) (qo655946 : Nat) (qo655947 : Nat) (p655948 : Int32) (p655949 : Int32) (p655950 : Int32) (p655951 : Int32) (p655952 : Int32) (p655953 : Int32) (p655954 : Int32) (p655955 : Int32) (f655956 : Nat → Int32) : Option Value → va_W → Nat → Nat → Prop := fun r w dc ds => ∃ (P656182 : List Nat) (F656183 : Nat → va_E) (o656173 : Int32) (o656174 : Int32) (o656175 : Int32) (o656176 : Int32) (q656177 : Nat) (o656178 : Int32) (o656179 : Int32) (o656180 : Int32) (o656181 : Int32), r = none ∧ w = va_pl P656182 F656183 ∧ rSub P655930 P656182 ∧ rFr [q655933, q655932] P655930 F655931 F656183 ∧ F656183 q655933 = .inr (20, [.int p655949, .int p655950, .int o656178, .int o656179, .int p655953, .int o656180, .int o656181]) ∧ F656183 q655932 = .inr (19, [.ref q655934, .int p655936, .int o656173, .int o656174, .int o656175, .int o656176, .int p655938, .ref q656177, .int p655943, .int p655944, .int p655945, .ref qo655946, .ref qo655947, .int p655948]) ∧ F656183 q655934 = .inl (I .byte, 8192, .inl f655956) ∧ dc ≤ (16 * (o656173.toInt - p655937.toInt)).toNat ∧ ds ≤ (256 * (o656173.toInt - p655937.toInt)).toNat ∧ gB o656173 0 8192 ∧ gB o656174 0 6 ∧ gB o656175 0 8192 ∧ gB o656180 0 1 ∧ gB o656181 0 1 ∧ p655937.toInt ≤ o656173.toInt ∧ prP o656174 p655937 o656173 ∧ o656173.toInt ≤ p655936.toInt ∧ tP I P656182 F656183 o656174 q656177 qo655947 qo655946 ∧ vP o656174 o656176 ∧ rwP o656180 o656178 ∧ rwP o656181 o656179 ∧ nzK p655938
def xp_655965_Reader_operand (D : va_G) (I : FieldType → ClassId) (P655930 : List Nat) (F655931 : Nat → va_E) (q655932 : Nat) (q655933 : Nat) (q655934 : Nat) (p655935 : Int32) (p655936 : Int32) (p655937 : Int32) (p655938 : Int32) (p655939 : Int32) (p655940 : Int32) (p655941 : Int32) (qo655942 : Nat) (p655943 : Int32) (p655944 : Int32) (p655945 : Int32) (qo655946 : Nat) (qo655947 : Nat) (p655948 : Int32) (p655949 : Int32) (p655950 : Int32) (p655951 : Int32) (p655952 : Int32) (p655953 : Int32) (p655954 : Int32) (p655955 : Int32) (f655956 : Nat → Int32) : String → Nat → va_W → Nat → Nat → Prop := fun E q w dc ds => ∃ (P656185 : List Nat) (F656184 : Nat → va_E), E = "SpillForgeModel$Wrong" ∧ w = va_pl P656185 F656184 ∧ rSub P655930 P656185 ∧ rFr [] P655930 F655931 F656184 ∧ q ∈ P656185 ∧ q ∉ P655930 ∧ wrF F656184 q ∧ dc ≤ (16 * (p655936.toInt - p655937.toInt)).toNat + 1 ∧ ds ≤ (256 * (p655936.toInt - p655937.toInt)).toNat + 7 ∧ rkR (F656184 q655933)
set_option maxRecDepth 100000 in
set_option maxHeartbeats 4000000 in
theorem cp_655965_Reader_operand (l : Launch) (hl0 : l.stackTraces = false) (D : va_G) (I : FieldType → ClassId) (P655930 : List Nat) (F655931 : Nat → va_E) (q655932 : Nat) (q655933 : Nat) (q655934 : Nat) (p655935 : Int32) (p655936 : Int32) (p655937 : Int32) (p655938 : Int32) (p655939 : Int32) (p655940 : Int32) (p655941 : Int32) (qo655942 : Nat) (p655943 : Int32) (p655944 : Int32) (p655945 : Int32) (qo655946 : Nat) (qo655947 : Nat) (p655948 : Int32) (p655949 : Int32) (p655950 : Int32) (p655951 : Int32) (p655952 : Int32) (p655953 : Int32) (p655954 : Int32) (p655955 : Int32) (f655956 : Nat → Int32) (hmq655932 : q655932 ∈ P655930) (hmq655933 : q655933 ∈ P655930) (hmq655934 : q655934 ∈ P655930) (heq655932 : F655931 q655932 = .inr (19, [.ref q655934, .int p655936, .int p655937, .int p655938, .int p655939, .int p655940, .int p655941, .ref qo655942, .int p655943, .int p655944, .int p655945, .ref qo655946, .ref qo655947, .int p655948])) (heq655933 : F655931 q655933 = .inr (20, [.int p655949, .int p655950, .int p655951, .int p655952, .int p655953, .int p655954, .int p655955])) (heq655934 : F655931 q655934 = .inl (I .byte, 8192, .inl f655956)) (bp655935 : gB p655935 0 1) (bp655936 : gB p655936 0 8192) (bp655937 : gB p655937 0 8192) (bp655938 : gB p655938 0 6) (bp655939 : gB p655939 0 8192) (bp655941 : gB p655941 0 6) (bp655943 : gB p655943 (-1) 8192) (bp655944 : gB p655944 0 4) (bp655945 : gB p655945 0 1000000) (bp655948 : gB p655948 0 1000000) (bp655949 : gB p655949 0 32) (bp655950 : gB p655950 0 1999) (bp655953 : gB p655953 0 1999) (bp655954 : gB p655954 0 1) (bp655955 : gB p655955 0 1) (bf655956 : gF f655956 (-128) 127) (x655957 : p655937.toInt ≤ p655936.toInt) (x655958 : qo655947 ∈ P655930) (x655959 : qo655946 ∈ P655930) (x655960 : tP I P655930 F655931 p655938 qo655942 qo655947 qo655946) (x655961 : vP p655938 p655940) (x655962 : rwP p655954 p655951) (x655963 : rwP p655955 p655952) (x655964 : opP p655949) : CtA (gV D I) l yX14_operand cX14_operand 4 none 8 177 ((16 * (p655936.toInt - p655937.toInt)).toNat + 1) ((256 * (p655936.toInt - p655937.toInt)).toNat + 7) [.ref q655932, .ref q655933, .int p655935] (va_pl P655930 F655931) (pp_655965_Reader_operand D I P655930 F655931 q655932 q655933 q655934 p655935 p655936 p655937 p655938 p655939 p655940 p655941 qo655942 p655943 p655944 p655945 qo655946 qo655947 p655948 p655949 p655950 p655951 p655952 p655953 p655954 p655955 f655956) (xp_655965_Reader_operand D I P655930 F655931 q655932 q655933 q655934 p655935 p655936 p655937 p655938 p655939 p655940 p655941 qo655942 p655943 p655944 p655945 qo655946 qo655947 p655948 p655949 p655950 p655951 p655952 p655953 p655954 p655955 f655956) := by
  refine CtA_of hl0 (by decide) (Nat.le_of_ble_eq_true rfl) ?_
  have bp655940 := gB_any p655940
  have bp655951 := gB_any p655951
  have bp655952 := gB_any p655952
  refine G_aload_n 0 dr_cX14_operand_0 rfl ?_
  refine Gp_get 3 hmq655932 heq655932 dr_cX14_operand_1 (gk_X14 D I) (Nat.le_of_ble_eq_true rfl) wr_9_39 rfl ?_
  refine G_iconst 2 dr_cX14_operand_4 (by decide +kernel) ?_
  refine G_icmp_ne 12 dr_cX14_operand_5 (by decide +kernel) (fun hc655966 => ?_) (fun hc655966 => ?_)
  · have r655967 : p655938.toInt ≠ 2 := gj_neq hc655966 (show Int32.toInt 2 = 2 by decide)
    refine G_iconst 0 dr_cX14_operand_12 (by decide +kernel) ?_
    refine G_istore_n (L' := [(3, .int 0), (0, .ref q655932), (1, .ref q655933), (2, .int p655935)]) dr_cX14_operand_13 (Nat.le_of_ble_eq_true rfl) rfl ?_
    refine G_iload_n 0 dr_cX14_operand_14 rfl ?_
    refine G_if_ne 31 dr_cX14_operand_15 (by decide +kernel) (fun hc => absurd hc (by decide)) (fun _ => ?_)
    refine G_aload_n 1 dr_cX14_operand_18 rfl ?_
    refine Gp_get 3 hmq655932 heq655932 dr_cX14_operand_19 (gk_X14 D I) (Nat.le_of_ble_eq_true rfl) wr_9_39 rfl ?_
    refine G_iconst 4 dr_cX14_operand_22 (by decide +kernel) ?_
    refine G_icmp_eq 31 dr_cX14_operand_23 (by decide +kernel) (fun hc655968 => ?_) (fun hc655968 => ?_)
    · have r655969 : p655938.toInt = 4 := gj_eq hc655968 (show Int32.toInt 4 = 4 by decide)
      have bp655938' : gB p655938 4 4 := ⟨by omega, by omega⟩
      refine G_iload_n 3 dr_cX14_operand_31 rfl ?_
      refine G_if_eq 51 dr_cX14_operand_32 (by decide +kernel) (fun hc655970 => ?_) (fun hc655970 => ?_)
      · have r655971 : p655935.toInt = 0 := gj_eq hc655970 (show Int32.toInt 0 = 0 by decide)
        have bp655935' : gB p655935 0 0 := ⟨by omega, by omega⟩
        refine G_aload_n 2 dr_cX14_operand_51 rfl ?_
        refine G_aload_n 1 dr_cX14_operand_52 rfl ?_
        refine Gp_get 5 hmq655932 heq655932 dr_cX14_operand_53 (gk_X14 D I) (Nat.le_of_ble_eq_true rfl) wr_9_41 rfl ?_
        refine Gp_put 2 hmq655933 heq655933 dr_cX14_operand_56 (gk_X15 D I) (Nat.le_of_ble_eq_true rfl) wr_9_187 rfl rfl rfl (Nat.le_of_ble_eq_true rfl) (fun F655972 e655973 n655974 => ?_)
        have he655975 : F655972 q655932 = .inr (19, [.ref q655934, .int p655936, .int p655937, .int p655938, .int p655939, .int p655940, .int p655941, .ref qo655942, .int p655943, .int p655944, .int p655945, .ref qo655946, .ref qo655947, .int p655948]) := (n655974 q655932 (rn_oo heq655932 heq655933 (by decide))).trans heq655932
        have he655976 : F655972 q655934 = .inl (I .byte, 8192, .inl f655956) := (n655974 q655934 (rn_ao heq655934 heq655933)).trans heq655934
        have he655977 : F655972 q655933 = .inr (20, [.int p655949, .int p655950, .int p655940, .int p655952, .int p655953, .int p655954, .int p655955]) := e655973
        have hfr655978 : rFr [q655933] P655930 F655931 F655972 := rFr_put (rFr_rf (W := []) (P := P655930) (F := F655931)) n655974
        have tp655979 : tP I P655930 F655972 p655938 qo655942 qo655947 qo655946 := tP_put x655960 heq655933 (by decide) n655974
        refine G_aload_n 2 dr_cX14_operand_59 rfl ?_
        refine G_iload_n 0 dr_cX14_operand_60 rfl ?_
        refine Gp_put 5 hmq655933 he655977 dr_cX14_operand_61 (gk_X15 D I) (Nat.le_of_ble_eq_true rfl) wr_9_198 rfl rfl rfl (Nat.le_of_ble_eq_true rfl) (fun F655980 e655981 n655982 => ?_)
        have he655983 : F655980 q655932 = .inr (19, [.ref q655934, .int p655936, .int p655937, .int p655938, .int p655939, .int p655940, .int p655941, .ref qo655942, .int p655943, .int p655944, .int p655945, .ref qo655946, .ref qo655947, .int p655948]) := (n655982 q655932 (rn_oo he655975 he655977 (by decide))).trans he655975
        have he655984 : F655980 q655934 = .inl (I .byte, 8192, .inl f655956) := (n655982 q655934 (rn_ao he655976 he655977)).trans he655976
        have he655985 : F655980 q655933 = .inr (20, [.int p655949, .int p655950, .int p655940, .int p655952, .int p655953, .int 0, .int p655955]) := e655981
        have hfr655986 : rFr [q655933] P655930 F655931 F655980 := rFr_put' List.mem_cons_self hfr655978 n655982
        have tp655987 : tP I P655930 F655980 p655938 qo655942 qo655947 qo655946 := tP_put tp655979 he655977 (by decide) n655982
        refine G_aload_n 1 dr_cX14_operand_64 rfl ?_
        refine Gw_callV (As := []) (gV_ok D I) (cp_653750_Reader_next l hl0 D I P655930 F655980 q655932 q655934 p655936 p655937 p655938 p655939 p655940 p655941 qo655942 p655943 p655944 p655945 qo655946 qo655947 p655948 f655956 hmq655932 hmq655934 he655983 he655984 bp655936 bp655937 (gB_w bp655938' (by decide) (by decide)) bp655939 bp655941 bp655943 bp655944 bp655945 bp655948 bf655956 (by have qa0 : Int32.toInt 0 = 0 := (by decide); omega) x655958 x655959) dr_cX14_operand_65 ⟨wr_7_215, wr_1_32, wr_7_218, by decide, rfl, (Nat.le_of_ble_eq_true rfl), (Nat.le_of_ble_eq_true rfl)⟩ wr_7_217 wr_p_75 hmq655932 he655983 rfl (show 0 + ((16 * (p655936.toInt - p655937.toInt)).toNat) ≤ ((16 * (p655936.toInt - p655937.toInt)).toNat + 1) by first | omega | decide) (show 0 + ((256 * (p655936.toInt - p655937.toInt)).toNat) ≤ ((256 * (p655936.toInt - p655937.toInt)).toNat + 7) by first | omega | decide) (Nat.le_of_ble_eq_true rfl) (fun r655991 w655992 dc655988 ds655989 hp655990 => ?_) (fun _ _ _ _ _ z => z.elim)
        obtain ⟨P656003, F656004, o655993, o655994, o655995, o655996, q655997, rfl, rfl, hsb656005, hfr656006, he656007, he656008, hdc, hds, bo655993, bo655994, bo655995, x655998, x655999, x656000, x656001, x656002⟩ := hp655990
        have hm656009 : q655932 ∈ P656003 := hsb656005 q655932 hmq655932
        have hm656010 : q655933 ∈ P656003 := hsb656005 q655933 hmq655933
        have hm656011 : q655934 ∈ P656003 := hsb656005 q655934 hmq655934
        have hsb656012 : rSub P655930 P656003 := rSub_tr (rSub_rf (P := P655930)) hsb656005
        have he656013 : F656004 q655933 = .inr (20, [.int p655949, .int p655950, .int p655940, .int p655952, .int p655953, .int 0, .int p655955]) := (hfr656006 q655933 hmq655933 (nm_c (rn_oo he655985 he655983 (by decide)) nm_n)).trans he655985
        have hfr656014 : rFr [q655933, q655932] P655930 F655931 F656004 := rFr_call (rSub_rf (P := P655930)) hfr655986 hfr656006 (fun b hb hn => ⟨(nm_c (fun e => hn (e ▸ List.mem_cons_self)) nm_n), (nm_c (fun e => hn (e ▸ (List.mem_cons_of_mem _ List.mem_cons_self))) nm_n)⟩)
        have bo655996 := gB_any o655996
        change G _ _ _ _ _ _ _ _ _ _ _
        refine G_widen (cs' := (16 * (o655993.toInt - p655937.toInt)).toNat) (sl' := (256 * (o655993.toInt - p655937.toInt)).toNat) (by omega) (by omega) ?_
        exact G_vretA dr_cX14_operand_68 rfl (show (16 * (o655993.toInt - p655937.toInt)).toNat ≤ ((16 * (p655936.toInt - p655937.toInt)).toNat + 1) by omega) (show (256 * (o655993.toInt - p655937.toInt)).toNat ≤ ((256 * (p655936.toInt - p655937.toInt)).toNat + 7) by omega) ⟨P656003, F656004, o655993, o655994, o655995, o655996, q655997, p655940, p655952, 0, p655955, rfl, rfl, hsb656012, hfr656014, he656013, he656007, he656008, (by omega), (by omega), bo655993, bo655994, bo655995, (gB_w (gBl (show Int32.toInt 0 = 0 by decide)) (by decide) (by decide)), bp655955, (by have qa0 : Int32.toInt 0 = 0 := (by decide); omega), x655999, (by have qa0 : Int32.toInt 0 = 0 := (by decide); omega), x656001, x656002, rwP_0, x655963, (show nzK p655938 by unfold nzK; omega)⟩
      · have r656015 : p655935.toInt ≠ 0 := gj_neq hc655970 (show Int32.toInt 0 = 0 by decide)
        have bp655935' : gB p655935 1 1 := ⟨by omega, by omega⟩
        refine G_aload_n 2 dr_cX14_operand_35 rfl ?_
        refine G_aload_n 1 dr_cX14_operand_36 rfl ?_
        refine Gp_get 5 hmq655932 heq655932 dr_cX14_operand_37 (gk_X14 D I) (Nat.le_of_ble_eq_true rfl) wr_9_41 rfl ?_
        refine Gp_put 3 hmq655933 heq655933 dr_cX14_operand_40 (gk_X15 D I) (Nat.le_of_ble_eq_true rfl) wr_9_191 rfl rfl rfl (Nat.le_of_ble_eq_true rfl) (fun F656016 e656017 n656018 => ?_)
        have he656019 : F656016 q655932 = .inr (19, [.ref q655934, .int p655936, .int p655937, .int p655938, .int p655939, .int p655940, .int p655941, .ref qo655942, .int p655943, .int p655944, .int p655945, .ref qo655946, .ref qo655947, .int p655948]) := (n656018 q655932 (rn_oo heq655932 heq655933 (by decide))).trans heq655932
        have he656020 : F656016 q655934 = .inl (I .byte, 8192, .inl f655956) := (n656018 q655934 (rn_ao heq655934 heq655933)).trans heq655934
        have he656021 : F656016 q655933 = .inr (20, [.int p655949, .int p655950, .int p655951, .int p655940, .int p655953, .int p655954, .int p655955]) := e656017
        have hfr656022 : rFr [q655933] P655930 F655931 F656016 := rFr_put (rFr_rf (W := []) (P := P655930) (F := F655931)) n656018
        have tp656023 : tP I P655930 F656016 p655938 qo655942 qo655947 qo655946 := tP_put x655960 heq655933 (by decide) n656018
        refine G_aload_n 2 dr_cX14_operand_43 rfl ?_
        refine G_iload_n 0 dr_cX14_operand_44 rfl ?_
        refine Gp_put 6 hmq655933 he656021 dr_cX14_operand_45 (gk_X15 D I) (Nat.le_of_ble_eq_true rfl) wr_9_201 rfl rfl rfl (Nat.le_of_ble_eq_true rfl) (fun F656024 e656025 n656026 => ?_)
        have he656027 : F656024 q655932 = .inr (19, [.ref q655934, .int p655936, .int p655937, .int p655938, .int p655939, .int p655940, .int p655941, .ref qo655942, .int p655943, .int p655944, .int p655945, .ref qo655946, .ref qo655947, .int p655948]) := (n656026 q655932 (rn_oo he656019 he656021 (by decide))).trans he656019
        have he656028 : F656024 q655934 = .inl (I .byte, 8192, .inl f655956) := (n656026 q655934 (rn_ao he656020 he656021)).trans he656020
        have he656029 : F656024 q655933 = .inr (20, [.int p655949, .int p655950, .int p655951, .int p655940, .int p655953, .int p655954, .int 0]) := e656025
        have hfr656030 : rFr [q655933] P655930 F655931 F656024 := rFr_put' List.mem_cons_self hfr656022 n656026
        have tp656031 : tP I P655930 F656024 p655938 qo655942 qo655947 qo655946 := tP_put tp656023 he656021 (by decide) n656026
        refine G_goto 64 dr_cX14_operand_48 (by decide +kernel) ?_
        refine G_aload_n 1 dr_cX14_operand_64 rfl ?_
        refine Gw_callV (As := []) (gV_ok D I) (cp_653750_Reader_next l hl0 D I P655930 F656024 q655932 q655934 p655936 p655937 p655938 p655939 p655940 p655941 qo655942 p655943 p655944 p655945 qo655946 qo655947 p655948 f655956 hmq655932 hmq655934 he656027 he656028 bp655936 bp655937 (gB_w bp655938' (by decide) (by decide)) bp655939 bp655941 bp655943 bp655944 bp655945 bp655948 bf655956 (by have qa0 : Int32.toInt 0 = 0 := (by decide); omega) x655958 x655959) dr_cX14_operand_65 ⟨wr_7_215, wr_1_32, wr_7_218, by decide, rfl, (Nat.le_of_ble_eq_true rfl), (Nat.le_of_ble_eq_true rfl)⟩ wr_7_217 wr_p_75 hmq655932 he656027 rfl (show 0 + ((16 * (p655936.toInt - p655937.toInt)).toNat) ≤ ((16 * (p655936.toInt - p655937.toInt)).toNat + 1) by first | omega | decide) (show 0 + ((256 * (p655936.toInt - p655937.toInt)).toNat) ≤ ((256 * (p655936.toInt - p655937.toInt)).toNat + 7) by first | omega | decide) (Nat.le_of_ble_eq_true rfl) (fun r656035 w656036 dc656032 ds656033 hp656034 => ?_) (fun _ _ _ _ _ z => z.elim)
        obtain ⟨P656047, F656048, o656037, o656038, o656039, o656040, q656041, rfl, rfl, hsb656049, hfr656050, he656051, he656052, hdc, hds, bo656037, bo656038, bo656039, x656042, x656043, x656044, x656045, x656046⟩ := hp656034
        have hm656053 : q655932 ∈ P656047 := hsb656049 q655932 hmq655932
        have hm656054 : q655933 ∈ P656047 := hsb656049 q655933 hmq655933
        have hm656055 : q655934 ∈ P656047 := hsb656049 q655934 hmq655934
        have hsb656056 : rSub P655930 P656047 := rSub_tr (rSub_rf (P := P655930)) hsb656049
        have he656057 : F656048 q655933 = .inr (20, [.int p655949, .int p655950, .int p655951, .int p655940, .int p655953, .int p655954, .int 0]) := (hfr656050 q655933 hmq655933 (nm_c (rn_oo he656029 he656027 (by decide)) nm_n)).trans he656029
        have hfr656058 : rFr [q655933, q655932] P655930 F655931 F656048 := rFr_call (rSub_rf (P := P655930)) hfr656030 hfr656050 (fun b hb hn => ⟨(nm_c (fun e => hn (e ▸ List.mem_cons_self)) nm_n), (nm_c (fun e => hn (e ▸ (List.mem_cons_of_mem _ List.mem_cons_self))) nm_n)⟩)
        have bo656040 := gB_any o656040
        change G _ _ _ _ _ _ _ _ _ _ _
        refine G_widen (cs' := (16 * (o656037.toInt - p655937.toInt)).toNat) (sl' := (256 * (o656037.toInt - p655937.toInt)).toNat) (by omega) (by omega) ?_
        exact G_vretA dr_cX14_operand_68 rfl (show (16 * (o656037.toInt - p655937.toInt)).toNat ≤ ((16 * (p655936.toInt - p655937.toInt)).toNat + 1) by omega) (show (256 * (o656037.toInt - p655937.toInt)).toNat ≤ ((256 * (p655936.toInt - p655937.toInt)).toNat + 7) by omega) ⟨P656047, F656048, o656037, o656038, o656039, o656040, q656041, p655951, p655940, p655954, 0, rfl, rfl, hsb656056, hfr656058, he656057, he656051, he656052, (by omega), (by omega), bo656037, bo656038, bo656039, bp655954, (gB_w (gBl (show Int32.toInt 0 = 0 by decide)) (by decide) (by decide)), (by have qa0 : Int32.toInt 0 = 0 := (by decide); omega), x656043, (by have qa0 : Int32.toInt 0 = 0 := (by decide); omega), x656045, x656046, x655962, rwP_0, (show nzK p655938 by unfold nzK; omega)⟩
    · have r656059 : p655938.toInt ≠ 4 := gj_neq hc655968 (show Int32.toInt 4 = 4 by decide)
      refine G_aload_n 1 dr_cX14_operand_26 rfl ?_
      refine Gw_callV (As := []) (gV_ok D I) (cp_655381_Reader_no l hl0 D I P655930 F655931 q655932 q655934 p655936 p655937 p655938 p655939 p655940 p655941 qo655942 p655943 p655944 p655945 qo655946 qo655947 p655948 f655956 hmq655932 hmq655934 heq655932 heq655934 bp655936 bp655937 bp655938 bp655939 bp655941 bp655943 bp655944 bp655945 bp655948 bf655956) dr_cX14_operand_27 ⟨wr_9_97, wr_1_32, wr_9_100, by decide, rfl, (Nat.le_of_ble_eq_true rfl), (Nat.le_of_ble_eq_true rfl)⟩ wr_9_99 wr_p_81 hmq655932 heq655932 rfl (show 0 + 1 ≤ ((16 * (p655936.toInt - p655937.toInt)).toNat + 1) by first | omega | decide) (show 0 + 7 ≤ ((256 * (p655936.toInt - p655937.toInt)).toNat + 7) by first | omega | decide) (Nat.le_of_ble_eq_true rfl) (fun r656063 w656064 dc656060 ds656061 hp656062 => ?_) (fun _ _ _ _ _ z => z.elim)
      obtain ⟨P656066, F656067, q656065, rfl, rfl, hsb656068, hfr656069, he656070, he656071, he656072, hm656073, hq656074, hdc, hds⟩ := hp656062
      have hm656075 : q655932 ∈ P656066 := hsb656068 q655932 hmq655932
      have hm656076 : q655933 ∈ P656066 := hsb656068 q655933 hmq655933
      have hm656077 : q655934 ∈ P656066 := hsb656068 q655934 hmq655934
      have hq656078 : q656065 ∉ P655930 := fun z => hq656074 ((rSub_rf (P := P655930)) q656065 z)
      have hsb656079 : rSub P655930 P656066 := rSub_tr (rSub_rf (P := P655930)) hsb656068
      have he656080 : F656067 q655933 = .inr (20, [.int p655949, .int p655950, .int p655951, .int p655952, .int p655953, .int p655954, .int p655955]) := (hfr656069 q655933 hmq655933 nm_n).trans heq655933
      have hfr656081 : rFr [] P655930 F655931 F656067 := rFr_call (rSub_rf (P := P655930)) (rFr_rf (W := []) (P := P655930) (F := F655931)) hfr656069 (fun b hb hn => ⟨nm_n, nm_n⟩)
      have tp656082 : tP I P656066 F656067 p655938 qo655942 qo655947 qo655946 := tP_new x655960 hsb656068 (fun b hb => hfr656069 b hb (fun z => by cases z)) (Or.inl rfl) (Or.inl rfl)
      change G _ _ _ _ _ _ _ (.ref q656065 :: _) _ _ _
      refine G_widen (cs' := 1) (sl' := 7) (by omega) (by omega) ?_
      exact Gp_athrow hm656073 he656072 rfl dr_cX14_operand_30 (GT_outA rfl (show 1 ≤ ((16 * (p655936.toInt - p655937.toInt)).toNat + 1) by omega) (show 7 ≤ ((256 * (p655936.toInt - p655937.toInt)).toNat + 7) by omega) ⟨P656066, F656067, rfl, rfl, hsb656079, hfr656081, hm656073, hq656078, ⟨_, _, _, _, _, _, _, he656072, by omega⟩, (by omega), (by omega), ⟨p655949, p655950, p655951, p655952, p655953, p655954, p655955, he656080, bp655949, bp655950, bp655953, bp655954, bp655955, x655964, x655962, x655963⟩⟩)
  · have r656083 : p655938.toInt = 2 := gj_eq hc655966 (show Int32.toInt 2 = 2 by decide)
    have bp655938' : gB p655938 2 2 := ⟨by omega, by omega⟩
    refine G_iconst 1 dr_cX14_operand_8 (by decide +kernel) ?_
    refine G_goto 13 dr_cX14_operand_9 (by decide +kernel) ?_
    refine G_istore_n (L' := [(3, .int 1), (0, .ref q655932), (1, .ref q655933), (2, .int p655935)]) dr_cX14_operand_13 (Nat.le_of_ble_eq_true rfl) rfl ?_
    refine G_iload_n 0 dr_cX14_operand_14 rfl ?_
    refine G_if_ne 31 dr_cX14_operand_15 (by decide +kernel) (fun _ => ?_) (fun hc => absurd hc (by decide))
    refine G_iload_n 3 dr_cX14_operand_31 rfl ?_
    refine G_if_eq 51 dr_cX14_operand_32 (by decide +kernel) (fun hc656084 => ?_) (fun hc656084 => ?_)
    · have r656085 : p655935.toInt = 0 := gj_eq hc656084 (show Int32.toInt 0 = 0 by decide)
      have bp655935' : gB p655935 0 0 := ⟨by omega, by omega⟩
      refine G_aload_n 2 dr_cX14_operand_51 rfl ?_
      refine G_aload_n 1 dr_cX14_operand_52 rfl ?_
      refine Gp_get 5 hmq655932 heq655932 dr_cX14_operand_53 (gk_X14 D I) (Nat.le_of_ble_eq_true rfl) wr_9_41 rfl ?_
      refine Gp_put 2 hmq655933 heq655933 dr_cX14_operand_56 (gk_X15 D I) (Nat.le_of_ble_eq_true rfl) wr_9_187 rfl rfl rfl (Nat.le_of_ble_eq_true rfl) (fun F656086 e656087 n656088 => ?_)
      have he656089 : F656086 q655932 = .inr (19, [.ref q655934, .int p655936, .int p655937, .int p655938, .int p655939, .int p655940, .int p655941, .ref qo655942, .int p655943, .int p655944, .int p655945, .ref qo655946, .ref qo655947, .int p655948]) := (n656088 q655932 (rn_oo heq655932 heq655933 (by decide))).trans heq655932
      have he656090 : F656086 q655934 = .inl (I .byte, 8192, .inl f655956) := (n656088 q655934 (rn_ao heq655934 heq655933)).trans heq655934
      have he656091 : F656086 q655933 = .inr (20, [.int p655949, .int p655950, .int p655940, .int p655952, .int p655953, .int p655954, .int p655955]) := e656087
      have hfr656092 : rFr [q655933] P655930 F655931 F656086 := rFr_put (rFr_rf (W := []) (P := P655930) (F := F655931)) n656088
      have tp656093 : tP I P655930 F656086 p655938 qo655942 qo655947 qo655946 := tP_put x655960 heq655933 (by decide) n656088
      refine G_aload_n 2 dr_cX14_operand_59 rfl ?_
      refine G_iload_n 0 dr_cX14_operand_60 rfl ?_
      refine Gp_put 5 hmq655933 he656091 dr_cX14_operand_61 (gk_X15 D I) (Nat.le_of_ble_eq_true rfl) wr_9_198 rfl rfl rfl (Nat.le_of_ble_eq_true rfl) (fun F656094 e656095 n656096 => ?_)
      have he656097 : F656094 q655932 = .inr (19, [.ref q655934, .int p655936, .int p655937, .int p655938, .int p655939, .int p655940, .int p655941, .ref qo655942, .int p655943, .int p655944, .int p655945, .ref qo655946, .ref qo655947, .int p655948]) := (n656096 q655932 (rn_oo he656089 he656091 (by decide))).trans he656089
      have he656098 : F656094 q655934 = .inl (I .byte, 8192, .inl f655956) := (n656096 q655934 (rn_ao he656090 he656091)).trans he656090
      have he656099 : F656094 q655933 = .inr (20, [.int p655949, .int p655950, .int p655940, .int p655952, .int p655953, .int 1, .int p655955]) := e656095
      have hfr656100 : rFr [q655933] P655930 F655931 F656094 := rFr_put' List.mem_cons_self hfr656092 n656096
      have tp656101 : tP I P655930 F656094 p655938 qo655942 qo655947 qo655946 := tP_put tp656093 he656091 (by decide) n656096
      refine G_aload_n 1 dr_cX14_operand_64 rfl ?_
      refine Gw_callV (As := []) (gV_ok D I) (cp_653750_Reader_next l hl0 D I P655930 F656094 q655932 q655934 p655936 p655937 p655938 p655939 p655940 p655941 qo655942 p655943 p655944 p655945 qo655946 qo655947 p655948 f655956 hmq655932 hmq655934 he656097 he656098 bp655936 bp655937 (gB_w bp655938' (by decide) (by decide)) bp655939 bp655941 bp655943 bp655944 bp655945 bp655948 bf655956 (by have qa0 : Int32.toInt 1 = 1 := (by decide); omega) x655958 x655959) dr_cX14_operand_65 ⟨wr_7_215, wr_1_32, wr_7_218, by decide, rfl, (Nat.le_of_ble_eq_true rfl), (Nat.le_of_ble_eq_true rfl)⟩ wr_7_217 wr_p_75 hmq655932 he656097 rfl (show 0 + ((16 * (p655936.toInt - p655937.toInt)).toNat) ≤ ((16 * (p655936.toInt - p655937.toInt)).toNat + 1) by first | omega | decide) (show 0 + ((256 * (p655936.toInt - p655937.toInt)).toNat) ≤ ((256 * (p655936.toInt - p655937.toInt)).toNat + 7) by first | omega | decide) (Nat.le_of_ble_eq_true rfl) (fun r656105 w656106 dc656102 ds656103 hp656104 => ?_) (fun _ _ _ _ _ z => z.elim)
      obtain ⟨P656117, F656118, o656107, o656108, o656109, o656110, q656111, rfl, rfl, hsb656119, hfr656120, he656121, he656122, hdc, hds, bo656107, bo656108, bo656109, x656112, x656113, x656114, x656115, x656116⟩ := hp656104
      have hm656123 : q655932 ∈ P656117 := hsb656119 q655932 hmq655932
      have hm656124 : q655933 ∈ P656117 := hsb656119 q655933 hmq655933
      have hm656125 : q655934 ∈ P656117 := hsb656119 q655934 hmq655934
      have hsb656126 : rSub P655930 P656117 := rSub_tr (rSub_rf (P := P655930)) hsb656119
      have he656127 : F656118 q655933 = .inr (20, [.int p655949, .int p655950, .int p655940, .int p655952, .int p655953, .int 1, .int p655955]) := (hfr656120 q655933 hmq655933 (nm_c (rn_oo he656099 he656097 (by decide)) nm_n)).trans he656099
      have hfr656128 : rFr [q655933, q655932] P655930 F655931 F656118 := rFr_call (rSub_rf (P := P655930)) hfr656100 hfr656120 (fun b hb hn => ⟨(nm_c (fun e => hn (e ▸ List.mem_cons_self)) nm_n), (nm_c (fun e => hn (e ▸ (List.mem_cons_of_mem _ List.mem_cons_self))) nm_n)⟩)
      have bo656110 := gB_any o656110
      change G _ _ _ _ _ _ _ _ _ _ _
      refine G_widen (cs' := (16 * (o656107.toInt - p655937.toInt)).toNat) (sl' := (256 * (o656107.toInt - p655937.toInt)).toNat) (by omega) (by omega) ?_
      exact G_vretA dr_cX14_operand_68 rfl (show (16 * (o656107.toInt - p655937.toInt)).toNat ≤ ((16 * (p655936.toInt - p655937.toInt)).toNat + 1) by omega) (show (256 * (o656107.toInt - p655937.toInt)).toNat ≤ ((256 * (p655936.toInt - p655937.toInt)).toNat + 7) by omega) ⟨P656117, F656118, o656107, o656108, o656109, o656110, q656111, p655940, p655952, 1, p655955, rfl, rfl, hsb656126, hfr656128, he656127, he656121, he656122, (by omega), (by omega), bo656107, bo656108, bo656109, (gB_w (gBl (show Int32.toInt 1 = 1 by decide)) (by decide) (by decide)), bp655955, (by have qa0 : Int32.toInt 1 = 1 := (by decide); omega), x656113, (by have qa0 : Int32.toInt 1 = 1 := (by decide); omega), x656115, x656116, (rwP_1 x655961 (by omega)), x655963, (show nzK p655938 by unfold nzK; omega)⟩
    · have r656129 : p655935.toInt ≠ 0 := gj_neq hc656084 (show Int32.toInt 0 = 0 by decide)
      have bp655935' : gB p655935 1 1 := ⟨by omega, by omega⟩
      refine G_aload_n 2 dr_cX14_operand_35 rfl ?_
      refine G_aload_n 1 dr_cX14_operand_36 rfl ?_
      refine Gp_get 5 hmq655932 heq655932 dr_cX14_operand_37 (gk_X14 D I) (Nat.le_of_ble_eq_true rfl) wr_9_41 rfl ?_
      refine Gp_put 3 hmq655933 heq655933 dr_cX14_operand_40 (gk_X15 D I) (Nat.le_of_ble_eq_true rfl) wr_9_191 rfl rfl rfl (Nat.le_of_ble_eq_true rfl) (fun F656130 e656131 n656132 => ?_)
      have he656133 : F656130 q655932 = .inr (19, [.ref q655934, .int p655936, .int p655937, .int p655938, .int p655939, .int p655940, .int p655941, .ref qo655942, .int p655943, .int p655944, .int p655945, .ref qo655946, .ref qo655947, .int p655948]) := (n656132 q655932 (rn_oo heq655932 heq655933 (by decide))).trans heq655932
      have he656134 : F656130 q655934 = .inl (I .byte, 8192, .inl f655956) := (n656132 q655934 (rn_ao heq655934 heq655933)).trans heq655934
      have he656135 : F656130 q655933 = .inr (20, [.int p655949, .int p655950, .int p655951, .int p655940, .int p655953, .int p655954, .int p655955]) := e656131
      have hfr656136 : rFr [q655933] P655930 F655931 F656130 := rFr_put (rFr_rf (W := []) (P := P655930) (F := F655931)) n656132
      have tp656137 : tP I P655930 F656130 p655938 qo655942 qo655947 qo655946 := tP_put x655960 heq655933 (by decide) n656132
      refine G_aload_n 2 dr_cX14_operand_43 rfl ?_
      refine G_iload_n 0 dr_cX14_operand_44 rfl ?_
      refine Gp_put 6 hmq655933 he656135 dr_cX14_operand_45 (gk_X15 D I) (Nat.le_of_ble_eq_true rfl) wr_9_201 rfl rfl rfl (Nat.le_of_ble_eq_true rfl) (fun F656138 e656139 n656140 => ?_)
      have he656141 : F656138 q655932 = .inr (19, [.ref q655934, .int p655936, .int p655937, .int p655938, .int p655939, .int p655940, .int p655941, .ref qo655942, .int p655943, .int p655944, .int p655945, .ref qo655946, .ref qo655947, .int p655948]) := (n656140 q655932 (rn_oo he656133 he656135 (by decide))).trans he656133
      have he656142 : F656138 q655934 = .inl (I .byte, 8192, .inl f655956) := (n656140 q655934 (rn_ao he656134 he656135)).trans he656134
      have he656143 : F656138 q655933 = .inr (20, [.int p655949, .int p655950, .int p655951, .int p655940, .int p655953, .int p655954, .int 1]) := e656139
      have hfr656144 : rFr [q655933] P655930 F655931 F656138 := rFr_put' List.mem_cons_self hfr656136 n656140
      have tp656145 : tP I P655930 F656138 p655938 qo655942 qo655947 qo655946 := tP_put tp656137 he656135 (by decide) n656140
      refine G_goto 64 dr_cX14_operand_48 (by decide +kernel) ?_
      refine G_aload_n 1 dr_cX14_operand_64 rfl ?_
      refine Gw_callV (As := []) (gV_ok D I) (cp_653750_Reader_next l hl0 D I P655930 F656138 q655932 q655934 p655936 p655937 p655938 p655939 p655940 p655941 qo655942 p655943 p655944 p655945 qo655946 qo655947 p655948 f655956 hmq655932 hmq655934 he656141 he656142 bp655936 bp655937 (gB_w bp655938' (by decide) (by decide)) bp655939 bp655941 bp655943 bp655944 bp655945 bp655948 bf655956 (by have qa0 : Int32.toInt 1 = 1 := (by decide); omega) x655958 x655959) dr_cX14_operand_65 ⟨wr_7_215, wr_1_32, wr_7_218, by decide, rfl, (Nat.le_of_ble_eq_true rfl), (Nat.le_of_ble_eq_true rfl)⟩ wr_7_217 wr_p_75 hmq655932 he656141 rfl (show 0 + ((16 * (p655936.toInt - p655937.toInt)).toNat) ≤ ((16 * (p655936.toInt - p655937.toInt)).toNat + 1) by first | omega | decide) (show 0 + ((256 * (p655936.toInt - p655937.toInt)).toNat) ≤ ((256 * (p655936.toInt - p655937.toInt)).toNat + 7) by first | omega | decide) (Nat.le_of_ble_eq_true rfl) (fun r656149 w656150 dc656146 ds656147 hp656148 => ?_) (fun _ _ _ _ _ z => z.elim)
      obtain ⟨P656161, F656162, o656151, o656152, o656153, o656154, q656155, rfl, rfl, hsb656163, hfr656164, he656165, he656166, hdc, hds, bo656151, bo656152, bo656153, x656156, x656157, x656158, x656159, x656160⟩ := hp656148
      have hm656167 : q655932 ∈ P656161 := hsb656163 q655932 hmq655932
      have hm656168 : q655933 ∈ P656161 := hsb656163 q655933 hmq655933
      have hm656169 : q655934 ∈ P656161 := hsb656163 q655934 hmq655934
      have hsb656170 : rSub P655930 P656161 := rSub_tr (rSub_rf (P := P655930)) hsb656163
      have he656171 : F656162 q655933 = .inr (20, [.int p655949, .int p655950, .int p655951, .int p655940, .int p655953, .int p655954, .int 1]) := (hfr656164 q655933 hmq655933 (nm_c (rn_oo he656143 he656141 (by decide)) nm_n)).trans he656143
      have hfr656172 : rFr [q655933, q655932] P655930 F655931 F656162 := rFr_call (rSub_rf (P := P655930)) hfr656144 hfr656164 (fun b hb hn => ⟨(nm_c (fun e => hn (e ▸ List.mem_cons_self)) nm_n), (nm_c (fun e => hn (e ▸ (List.mem_cons_of_mem _ List.mem_cons_self))) nm_n)⟩)
      have bo656154 := gB_any o656154
      change G _ _ _ _ _ _ _ _ _ _ _
      refine G_widen (cs' := (16 * (o656151.toInt - p655937.toInt)).toNat) (sl' := (256 * (o656151.toInt - p655937.toInt)).toNat) (by omega) (by omega) ?_
      exact G_vretA dr_cX14_operand_68 rfl (show (16 * (o656151.toInt - p655937.toInt)).toNat ≤ ((16 * (p655936.toInt - p655937.toInt)).toNat + 1) by omega) (show (256 * (o656151.toInt - p655937.toInt)).toNat ≤ ((256 * (p655936.toInt - p655937.toInt)).toNat + 7) by omega) ⟨P656161, F656162, o656151, o656152, o656153, o656154, q656155, p655951, p655940, p655954, 1, rfl, rfl, hsb656170, hfr656172, he656171, he656165, he656166, (by omega), (by omega), bo656151, bo656152, bo656153, bp655954, (gB_w (gBl (show Int32.toInt 1 = 1 by decide)) (by decide) (by decide)), (by have qa0 : Int32.toInt 1 = 1 := (by decide); omega), x656157, (by have qa0 : Int32.toInt 1 = 1 := (by decide); omega), x656159, x656160, x655962, (rwP_1 x655961 (by omega)), (show nzK p655938 by unfold nzK; omega)⟩
abbrev ky_656360_StringLatin1_charAt : gKey := (cJ1_charAt_3b067, 2, "java/lang/StringLatin1", (some FieldType.char), [], "charAt", fun _ _ => True)
def pp_656360_StringLatin1_charAt (D : va_G) (I : FieldType → ClassId) (P656354 : List Nat) (F656355 : Nat → va_E) (qs656356 : Nat) (bs656357 : List Int32) (p656358 : Int32) : Option Value → va_W → Nat → Nat → Prop := fun r w dc ds => ∃ (o656370 : Int32), r = some (.int o656370) ∧ w = va_pl P656354 F656355 ∧ dc ≤ 0 ∧ ds ≤ 0 ∧ gB o656370 0 255 ∧ chP (fun j => bs656357.getD j 0) p656358 o656370
set_option maxRecDepth 100000 in
set_option maxHeartbeats 4000000 in
theorem cp_656360_StringLatin1_charAt (l : Launch) (hl0 : l.stackTraces = false) (D : va_G) (I : FieldType → ClassId) (P656354 : List Nat) (F656355 : Nat → va_E) (qs656356 : Nat) (bs656357 : List Int32) (p656358 : Int32) (hbs656357 : ∀ A s H, (gV D I).2.2.2.1 A s H → va_T .byte qs656356 bs656357.length (fun j => .int (bs656357.getD j 0)) A s H) (nbs656357 : (bs656357.length : Int) ≤ 65535) (lbs656357 : gLB bs656357) (bp656358 : gB p656358 0 16777215) (x656359 : p656358.toInt < (bs656357.length : Int)) : CtA (gV D I) l yJ1_charAt_3b067 cJ1_charAt_3b067 2 (some FieldType.char) 2 43 0 0 [.ref qs656356, .int p656358] (va_pl P656354 F656355) (pp_656360_StringLatin1_charAt D I P656354 F656355 qs656356 bs656357 p656358) gNA := by
  refine CtA_ofF hl0 (by decide +kernel) (Nat.le_of_ble_eq_true rfl) ?_
  refine G_iload_n 1 dr_cJ1_charAt_3b067_0 rfl ?_
  refine G_aload_n 0 dr_cJ1_charAt_3b067_1 rfl ?_
  refine G_klen dr_cJ1_charAt_3b067_2 hbs656357 (G_nam fun z656361 hz656361 => ?_)
  have ez656361 : z656361.toInt = (bs656357.length : Int) := gI_ofN hz656361 nbs656357
  have bz656361 : gB z656361 0 65535 := ⟨by omega, by omega⟩
  refine Gw_callS (As := [.int p656358, .int z656361]) (gV_ok D I) (cp_640050_String_checkIndex l hl0 D I P656354 F656355 p656358 z656361 (gB_w bp656358 (by decide) (by decide)) (gB_w bz656361 (by decide) (by decide)) (by omega)) dr_cJ1_charAt_3b067_3 ⟨wr_3_78, wr_1_21, wr_3_80, by decide, rfl, (Nat.le_of_ble_eq_true rfl), (Nat.le_of_ble_eq_true rfl)⟩ wr_3_79 (show 0 + 0 ≤ 0 by first | omega | decide) (show 0 + 0 ≤ 0 by first | omega | decide) (Nat.le_of_ble_eq_true rfl) (fun r656365 w656366 dc656362 ds656363 hp656364 => ?_) (fun _ _ _ _ _ z => z.elim)
  obtain ⟨rfl, rfl, hdc, hds⟩ := hp656364
  change G _ _ _ _ _ _ _ _ _ _ _
  refine G_widen (cs' := 0) (sl' := 0) (by omega) (by omega) ?_
  refine G_aload_n 0 dr_cJ1_charAt_3b067_6 rfl ?_
  refine G_iload_n 1 dr_cJ1_charAt_3b067_7 rfl ?_
  refine G_kbald (f := fun j => bs656357.getD j 0) dr_cJ1_charAt_3b067_8 hbs656357 (gB_inr (by omega) (by omega)) (G_nam fun z656367 hz656367 => ?_)
  have bz656367 : gB z656367 (-2147483648) 2147483647 := gB_any z656367
  refine G_sipush 255 dr_cJ1_charAt_3b067_9 (by decide +kernel) ?_
  refine G_iand dr_cJ1_charAt_3b067_12 (G_nam fun z656368 hz656368 => ?_)
  have bz656368 : gB z656368 0 255 := gB_and hz656368 (gBl (show Int32.toInt 255 = 255 by decide)) (by decide)
  refine G_i2c dr_cJ1_charAt_3b067_13 (G_nam fun z656369 hz656369 => ?_)
  have ez656369 : z656369.toInt = z656368.toInt := gI_i2c hz656369 (by omega) (by omega)
  have bz656369 : gB z656369 0 255 := ⟨by omega, by omega⟩
  exact G_zretA FieldType.char dr_cJ1_charAt_3b067_14 rfl (gN_char (gB_w bz656369 (by decide) (by decide))) (Nat.le_of_ble_eq_true rfl) (Nat.le_of_ble_eq_true rfl) ⟨z656369, rfl, rfl, (Nat.le_of_ble_eq_true rfl), (Nat.le_of_ble_eq_true rfl), bz656369, (chP_of (by assumption) (by assumption) (by omega) (chb lbs656357 (by assumption)))⟩
abbrev ky_656348_String_charAt : gKey := (cJ0_charAt_5068e, 2, "java/lang/String", (some FieldType.char), [], "charAt", fun _ _ => True)
def pp_656348_String_charAt (D : va_G) (I : FieldType → ClassId) (P656341 : List Nat) (F656342 : Nat → va_E) (qs656343 : Nat) (qb656344 : Nat) (bs656345 : List Int32) (p656346 : Int32) : Option Value → va_W → Nat → Nat → Prop := fun r w dc ds => ∃ (o656378 : Int32), r = some (.int o656378) ∧ w = va_pl P656341 F656342 ∧ dc ≤ 0 ∧ ds ≤ 0 ∧ gB o656378 0 255 ∧ chP (fun j => bs656345.getD j 0) p656346 o656378
set_option maxRecDepth 100000 in
set_option maxHeartbeats 4000000 in
theorem cp_656348_String_charAt (l : Launch) (hl0 : l.stackTraces = false) (D : va_G) (I : FieldType → ClassId) (P656341 : List Nat) (F656342 : Nat → va_E) (qs656343 : Nat) (qb656344 : Nat) (bs656345 : List Int32) (p656346 : Int32) (hbs656345 : ∀ A s H, (gV D I).2.2.2.1 A s H → gSC qs656343 qb656344 bs656345 A s H) (nbs656345 : (bs656345.length : Int) ≤ 65535) (lbs656345 : gLB bs656345) (bp656346 : gB p656346 0 65535) (x656347 : p656346.toInt < (bs656345.length : Int)) : CtA (gV D I) l yJ0_charAt_5068e cJ0_charAt_5068e 2 (some FieldType.char) 3 64 0 0 [.ref qs656343, .int p656346] (va_pl P656341 F656342) (pp_656348_String_charAt D I P656341 F656342 qs656343 qb656344 bs656345 p656346) gNA := by
  refine CtA_ofF hl0 (by decide +kernel) (Nat.le_of_ble_eq_true rfl) ?_
  refine G_aload_n 0 dr_cJ0_charAt_5068e_0 rfl ?_
  refine Gw_callVk (As := []) (gV_ok D I) (cp_641686_String_isLatin1 l hl0 D I P656341 F656342 qs656343 qb656344 bs656345 hbs656345 nbs656345 lbs656345) dr_cJ0_charAt_5068e_1 ⟨wr_3_71, wr_1_21, wr_3_74, by decide, rfl, (Nat.le_of_ble_eq_true rfl), (Nat.le_of_ble_eq_true rfl)⟩ wr_3_72 wr_3_73 (fun _ _ _ h => (hbs656345 _ _ _ h).1) (show 0 + 0 ≤ 0 by first | omega | decide) (show 0 + 0 ≤ 0 by first | omega | decide) (Nat.le_of_ble_eq_true rfl) (fun r656352 w656353 dc656349 ds656350 hp656351 => ?_) (fun _ _ _ _ _ z => z.elim)
  obtain ⟨rfl, rfl, hdc, hds⟩ := hp656351
  change G _ _ _ _ _ _ _ (.int 1 :: _) _ _ _
  refine G_widen (cs' := 0) (sl' := 0) (by omega) (by omega) ?_
  refine G_if_eq 16 dr_cJ0_charAt_5068e_4 (by decide +kernel) (fun hc => absurd hc (by decide)) (fun _ => ?_)
  refine G_aload_n 0 dr_cJ0_charAt_5068e_7 rfl ?_
  refine G_kget dr_cJ0_charAt_5068e_8 wr_8_182 (fun _ _ _ h => (hbs656345 _ _ _ h).2.2.1) ?_
  refine G_iload_n 1 dr_cJ0_charAt_5068e_11 rfl ?_
  refine Gw_callS (As := [.ref qb656344, .int p656346]) (gV_ok D I) (cp_656360_StringLatin1_charAt l hl0 D I P656341 F656342 qb656344 bs656345 p656346 (fun _ _ _ h => (hbs656345 _ _ _ h).2.2.2) (by omega) lbs656345 (gB_w bp656346 (by decide) (by decide)) (by omega)) dr_cJ0_charAt_5068e_12 ⟨wr_3_75, wr_1_28, wr_3_77, by decide, rfl, (Nat.le_of_ble_eq_true rfl), (Nat.le_of_ble_eq_true rfl)⟩ wr_3_76 (show 0 + 0 ≤ 0 by first | omega | decide) (show 0 + 0 ≤ 0 by first | omega | decide) (Nat.le_of_ble_eq_true rfl) (fun r656374 w656375 dc656371 ds656372 hp656373 => ?_) (fun _ _ _ _ _ z => z.elim)
  obtain ⟨o656376, rfl, rfl, hdc, hds, bo656376, x656377⟩ := hp656373
  change G _ _ _ _ _ _ _ (.int o656376 :: _) _ _ _
  refine G_widen (cs' := 0) (sl' := 0) (by omega) (by omega) ?_
  exact G_zretA FieldType.char dr_cJ0_charAt_5068e_15 rfl (gN_char (gB_w bo656376 (by decide) (by decide))) (Nat.le_of_ble_eq_true rfl) (Nat.le_of_ble_eq_true rfl) ⟨o656376, rfl, rfl, (Nat.le_of_ble_eq_true rfl), (Nat.le_of_ble_eq_true rfl), bo656376, x656377⟩
abbrev ky_656196_SpillForgeModel_operation : gKey := (cX17_operation, 4, "SpillForgeModel", (some FieldType.int), [], "operation", fun _ _ => True)
def pp_656196_SpillForgeModel_operation (D : va_G) (I : FieldType → ClassId) (P656186 : List Nat) (F656187 : Nat → va_E) (q656188 : Nat) (q656189 : Nat) (p656190 : Int32) (p656191 : Int32) (f656192 : Nat → Int32) (n656193 : Nat) : Option Value → va_W → Nat → Nat → Prop := fun r w dc ds => ∃ (P656535 : List Nat) (F656536 : Nat → va_E) (o656534 : Int32), r = some (.int o656534) ∧ w = va_pl P656535 F656536 ∧ rSub P656186 P656535 ∧ rFr [] P656186 F656187 F656536 ∧ F656536 q656188 = .inr (0, [.ref q656189, .int 0, .int p656190, .int p656191]) ∧ F656536 q656189 = .inl (I .byte, n656193, .inl f656192) ∧ dc ≤ 8 ∧ ds ≤ 64 ∧ gB o656534 0 14 ∧ 0 ≤ o656534.toInt ∧ o656534.toInt ≤ 14
set_option maxRecDepth 100000 in
set_option maxHeartbeats 4000000 in
theorem cp_656196_SpillForgeModel_operation (l : Launch) (hl0 : l.stackTraces = false) (D : va_G) (I : FieldType → ClassId) (P656186 : List Nat) (F656187 : Nat → va_E) (q656188 : Nat) (q656189 : Nat) (p656190 : Int32) (p656191 : Int32) (f656192 : Nat → Int32) (n656193 : Nat) (hmq656188 : q656188 ∈ P656186) (hmq656189 : q656189 ∈ P656186) (heq656188 : F656187 q656188 = .inr (0, [.ref q656189, .int 0, .int p656190, .int p656191])) (heq656189 : F656187 q656189 = .inl (I .byte, n656193, .inl f656192)) (bp656191 : gB p656191 0 1) (bf656192 : gF f656192 (-128) 127) (x656194 : (n656193 : Int) ≤ 2) (x656195 : ((n656193 : Int) ≤ 16777216)) : CtA (gV D I) l yX17_operation cX17_operation 4 (some FieldType.int) 6 132 8 64 [.ref q656188] (va_pl P656186 F656187) (pp_656196_SpillForgeModel_operation D I P656186 F656187 q656188 q656189 p656190 p656191 f656192 n656193) gNA := by
  refine CtA_of hl0 (by decide) (Nat.le_of_ble_eq_true rfl) ?_
  have bp656190 := gB_any p656190
  refine G_ldcK (a := D.2 1000 42) dr_cX17_operation_0 (fun _ _ _ h => gx_vk 42 rfl rfl h) ?_
  have hl42_656196 : (sb_42.length : Int) = 34 := rfl
  refine G_new [.null, .int 0, .int 0, .int 0] dr_cX17_operation_2 (gk_J4 D I) wr_7_43 wr_7_44 wr_1_20 (gfs_J4) (show 0 + 1 ≤ 8 by first | omega | decide) (show 0 + 4 ≤ 64 by first | omega | decide) (fun q656198 => Gp_in (fun P656199 F656200 hq656201 hP656202 e656203 n656204 => ?_))
  refine G_widen (cs' := 1) (sl' := 4) (by omega) (by omega) ?_
  have he656205 : F656200 q656188 = .inr (0, [.ref q656189, .int 0, .int p656190, .int p656191]) := (n656204 q656188 (fun h => hq656201 (h ▸ hmq656188))).trans heq656188
  have he656206 : F656200 q656189 = .inl (I .byte, n656193, .inl f656192) := (n656204 q656189 (fun h => hq656201 (h ▸ hmq656189))).trans heq656189
  have he656207 : F656200 q656198 = .inr (1, [.null, .int 0, .int 0, .int 0]) := e656203
  have hm656208 : q656188 ∈ P656199 := (hP656202 q656188).mpr (Or.inl hmq656188)
  have hm656209 : q656189 ∈ P656199 := (hP656202 q656189).mpr (Or.inl hmq656189)
  have hm656210 : q656198 ∈ P656199 := (hP656202 q656198).mpr (Or.inr rfl)
  have hq656211 : q656198 ∉ P656186 := fun z => hq656201 ((rSub_rf (P := P656186)) q656198 z)
  have hfr656212 : rFr [] P656186 F656187 F656200 := rFr_new (rSub_rf (P := P656186)) hq656201 (rFr_rf (W := []) (P := P656186) (F := F656187)) n656204
  have hsb656213 : rSub P656186 P656199 := rSub_new (rSub_rf (P := P656186)) hP656202
  refine G_dup dr_cX17_operation_5 rfl ?_
  refine Gw_callI (As := []) (gV_ok D I) (cp_640525_StringBuilder_init l hl0 D I P656199 F656200 q656198 0 0 hm656210 he656207 (gB_w (gBl (show Int32.toInt 0 = 0 by decide)) (by decide) (by decide)) (gB_w (gBl (show Int32.toInt 0 = 0 by decide)) (by decide) (by decide))) dr_cX17_operation_6 ⟨wr_7_45, wr_1_20, wr_7_47, by decide, rfl, (Nat.le_of_ble_eq_true rfl), (Nat.le_of_ble_eq_true rfl)⟩ wr_7_46 rfl (show 1 + 1 ≤ 8 by first | omega | decide) (show 4 + 16 ≤ 64 by first | omega | decide) (Nat.le_of_ble_eq_true rfl) (fun r656217 w656218 dc656214 ds656215 hp656216 => ?_)
  obtain ⟨P656220, F656221, q656219, rfl, rfl, hsb656222, hfr656223, he656224, he656225, hm656226, hq656227, hdc, hds⟩ := hp656216
  have hm656228 : q656188 ∈ P656220 := hsb656222 q656188 hm656208
  have hm656229 : q656189 ∈ P656220 := hsb656222 q656189 hm656209
  have hm656230 : q656198 ∈ P656220 := hsb656222 q656198 hm656210
  have hq656231 : q656219 ∉ P656186 := fun z => hq656227 (hsb656213 q656219 z)
  have hsb656232 : rSub P656186 P656220 := rSub_tr hsb656213 hsb656222
  have he656233 : F656221 q656188 = .inr (0, [.ref q656189, .int 0, .int p656190, .int p656191]) := (hfr656223 q656188 hm656208 (nm_c (fun h => hq656211 (h ▸ hmq656188)) nm_n)).trans he656205
  have he656234 : F656221 q656189 = .inl (I .byte, n656193, .inl f656192) := (hfr656223 q656189 hm656209 (nm_c (fun h => hq656211 (h ▸ hmq656189)) nm_n)).trans he656206
  have hfr656235 : rFr [] P656186 F656187 F656221 := rFr_call hsb656213 hfr656212 hfr656223 (fun b hb hn => ⟨nm_n, (nm_c (fun e => hq656211 (e ▸ hb)) nm_n)⟩)
  change G _ _ _ _ _ _ _ _ _ _ _
  refine G_widen (cs' := 2) (sl' := 20) (by omega) (by omega) ?_
  refine G_ldcK (a := D.2 1000 43) dr_cX17_operation_9 (fun _ _ _ h => gx_vk 43 rfl rfl h) ?_
  have hl43_656235 : (sb_43.length : Int) = 1 := rfl
  refine Gw_callV (As := [.ref (D.2 1000 43)]) (gV_ok D I) (cp_640822_StringBuilder_append l hl0 D I P656220 F656221 q656198 q656219 (D.2 1000 43) (D.2 1001 43) sb_43 0 0 (fun _ => 0) 16 hm656230 hm656226 he656224 he656225 (gx_sc 43 rfl rfl) (by omega) (by decide +kernel) (gB_w (gBl (show Int32.toInt 0 = 0 by decide)) (by decide) (by decide)) (gB_w (gBl (show Int32.toInt 0 = 0 by decide)) (by decide) (by decide)) (gF_w gF_0 (by decide) (by decide)) (by have qa0 : Int32.toInt 0 = 0 := (by decide); omega) (by have qa0 : Int32.toInt 0 = 0 := (by decide); omega)) dr_cX17_operation_11 ⟨wr_10_100, wr_1_20, wr_8_143, by decide, rfl, (Nat.le_of_ble_eq_true rfl), (Nat.le_of_ble_eq_true rfl)⟩ wr_8_141 wr_8_142 hm656230 he656224 rfl (show 2 + 0 ≤ 8 by first | omega | decide) (show 20 + 0 ≤ 64 by first | omega | decide) (Nat.le_of_ble_eq_true rfl) (fun r656240 w656241 dc656237 ds656238 hp656239 => ?_) (fun _ _ _ _ _ z => z.elim)
  obtain ⟨F656247, o656242, f656243, rfl, rfl, hfr656249, he656250, he656251, hdc, hds, bo656242, bf656243, x656244, x656245, x656246⟩ := hp656239
  have he656252 : F656247 q656188 = .inr (0, [.ref q656189, .int 0, .int p656190, .int p656191]) := (hfr656249 q656188 hm656228 (nm_c (fun h => hq656211 (h ▸ hmq656188)) (nm_c (fun h => hq656231 (h ▸ hmq656188)) nm_n))).trans he656233
  have he656253 : F656247 q656189 = .inl (I .byte, n656193, .inl f656192) := (hfr656249 q656189 hm656229 (nm_c (fun h => hq656211 (h ▸ hmq656189)) (nm_c (fun h => hq656231 (h ▸ hmq656189)) nm_n))).trans he656234
  have hfr656254 : rFr [] P656186 F656187 F656247 := rFr_call hsb656232 hfr656235 hfr656249 (fun b hb hn => ⟨nm_n, (nm_c (fun e => hq656211 (e ▸ hb)) (nm_c (fun e => hq656231 (e ▸ hb)) nm_n))⟩)
  rw [show Int32.toInt 0 = 0 from by decide] at x656244
  rw [show Int32.toInt 0 = 0 from by decide] at x656245
  rw [show Int32.toInt 0 = 0 from by decide] at x656246
  change G _ _ _ _ _ _ _ (.ref q656198 :: _) _ _ _
  refine G_widen (cs' := 2) (sl' := 20) (by omega) (by omega) ?_
  refine G_aload_n 0 dr_cX17_operation_14 rfl ?_
  refine Gw_callV (As := [.ref q656188]) (gV_ok D I) (cp_640599_StringBuilder_append l hl0 D I P656220 F656247 q656198 q656188 q656219 q656189 0 o656242 p656190 p656191 f656243 16 f656192 n656193 hm656230 hm656228 hm656226 hm656229 he656250 he656252 he656251 he656253 (fun h => hq656231 (h ▸ hmq656189)) (gB_w (gBl (show Int32.toInt 0 = 0 by decide)) (by decide) (by decide)) bo656242 bp656191 bf656243 bf656192 (by have qa0 : Int32.toInt 0 = 0 := (by decide); omega) (by have qa0 : Int32.toInt 0 = 0 := (by decide); omega) (by have qa0 : Int32.toInt 0 = 0 := (by decide); omega)) dr_cX17_operation_15 ⟨wr_10_100, wr_1_20, wr_8_143, by decide, rfl, (Nat.le_of_ble_eq_true rfl), (Nat.le_of_ble_eq_true rfl)⟩ wr_8_141 wr_8_142 hm656230 he656250 rfl (show 2 + 0 ≤ 8 by first | omega | decide) (show 20 + 0 ≤ 64 by first | omega | decide) (Nat.le_of_ble_eq_true rfl) (fun r656258 w656259 dc656255 ds656256 hp656257 => ?_) (fun _ _ _ _ _ z => z.elim)
  obtain ⟨F656265, o656260, f656261, rfl, rfl, hfr656267, he656268, he656269, he656270, he656271, hdc, hds, bo656260, bf656261, x656262, x656263, x656264⟩ := hp656257
  have hfr656272 : rFr [] P656186 F656187 F656265 := rFr_call hsb656232 hfr656254 hfr656267 (fun b hb hn => ⟨nm_n, (nm_c (fun e => hq656211 (e ▸ hb)) (nm_c (fun e => hq656231 (e ▸ hb)) nm_n))⟩)
  change G _ _ _ _ _ _ _ (.ref q656198 :: _) _ _ _
  refine G_widen (cs' := 2) (sl' := 20) (by omega) (by omega) ?_
  refine G_ldcK (a := D.2 1000 43) dr_cX17_operation_18 (fun _ _ _ h => gx_vk 43 rfl rfl h) ?_
  have hl43_656272 : (sb_43.length : Int) = 1 := rfl
  refine Gw_callV (As := [.ref (D.2 1000 43)]) (gV_ok D I) (cp_640822_StringBuilder_append l hl0 D I P656220 F656265 q656198 q656219 (D.2 1000 43) (D.2 1001 43) sb_43 0 o656260 f656261 16 hm656230 hm656226 he656268 he656270 (gx_sc 43 rfl rfl) (by omega) (by decide +kernel) (gB_w (gBl (show Int32.toInt 0 = 0 by decide)) (by decide) (by decide)) bo656260 bf656261 (by have qa0 : Int32.toInt 0 = 0 := (by decide); omega) (by have qa0 : Int32.toInt 0 = 0 := (by decide); omega)) dr_cX17_operation_20 ⟨wr_10_100, wr_1_20, wr_8_143, by decide, rfl, (Nat.le_of_ble_eq_true rfl), (Nat.le_of_ble_eq_true rfl)⟩ wr_8_141 wr_8_142 hm656230 he656268 rfl (show 2 + 0 ≤ 8 by first | omega | decide) (show 20 + 0 ≤ 64 by first | omega | decide) (Nat.le_of_ble_eq_true rfl) (fun r656277 w656278 dc656274 ds656275 hp656276 => ?_) (fun _ _ _ _ _ z => z.elim)
  obtain ⟨F656284, o656279, f656280, rfl, rfl, hfr656286, he656287, he656288, hdc, hds, bo656279, bf656280, x656281, x656282, x656283⟩ := hp656276
  have he656289 : F656284 q656188 = .inr (0, [.ref q656189, .int 0, .int p656190, .int p656191]) := (hfr656286 q656188 hm656228 (nm_c (fun h => hq656211 (h ▸ hmq656188)) (nm_c (fun h => hq656231 (h ▸ hmq656188)) nm_n))).trans he656269
  have he656290 : F656284 q656189 = .inl (I .byte, n656193, .inl f656192) := (hfr656286 q656189 hm656229 (nm_c (fun h => hq656211 (h ▸ hmq656189)) (nm_c (fun h => hq656231 (h ▸ hmq656189)) nm_n))).trans he656271
  have hfr656291 : rFr [] P656186 F656187 F656284 := rFr_call hsb656232 hfr656272 hfr656286 (fun b hb hn => ⟨nm_n, (nm_c (fun e => hq656211 (e ▸ hb)) (nm_c (fun e => hq656231 (e ▸ hb)) nm_n))⟩)
  change G _ _ _ _ _ _ _ (.ref q656198 :: _) _ _ _
  refine G_widen (cs' := 2) (sl' := 20) (by omega) (by omega) ?_
  refine Gw_callV (As := []) (gV_ok D I) (cp_641280_StringBuilder_toString l hl0 D I P656220 F656284 q656198 q656219 0 o656279 f656280 16 hm656230 hm656226 he656287 he656288 (gB_w (gBl (show Int32.toInt 0 = 0 by decide)) (by decide) (by decide)) bo656279 bf656280 (by have qa0 : Int32.toInt 0 = 0 := (by decide); omega) (by have qa0 : Int32.toInt 0 = 0 := (by decide); omega)) dr_cX17_operation_23 ⟨wr_10_101, wr_1_20, wr_8_69, by decide, rfl, (Nat.le_of_ble_eq_true rfl), (Nat.le_of_ble_eq_true rfl)⟩ wr_8_67 wr_8_68 hm656230 he656287 rfl (show 2 + 2 ≤ 8 by first | omega | decide) (show 20 + (o656279.toInt.toNat + 4) ≤ 64 by first | omega | decide) (Nat.le_of_ble_eq_true rfl) (fun r656295 w656296 dc656292 ds656293 hp656294 => ?_) (fun _ _ _ _ _ z => z.elim)
  obtain ⟨P656303, F656304, q656297, q656298, n656299, f656300, rfl, rfl, hsb656305, hfr656306, he656307, he656308, he656309, he656310, hm656311, hq656312, hm656313, hq656314, hdc, hds, bf656300, x656301, x656302⟩ := hp656294
  have hm656315 : q656188 ∈ P656303 := hsb656305 q656188 hm656228
  have hm656316 : q656189 ∈ P656303 := hsb656305 q656189 hm656229
  have hm656317 : q656198 ∈ P656303 := hsb656305 q656198 hm656230
  have hm656318 : q656219 ∈ P656303 := hsb656305 q656219 hm656226
  have hq656319 : q656297 ∉ P656186 := fun z => hq656312 (hsb656232 q656297 z)
  have hq656320 : q656298 ∉ P656186 := fun z => hq656314 (hsb656232 q656298 z)
  have hsb656321 : rSub P656186 P656303 := rSub_tr hsb656232 hsb656305
  have he656322 : F656304 q656188 = .inr (0, [.ref q656189, .int 0, .int p656190, .int p656191]) := (hfr656306 q656188 hm656228 nm_n).trans he656289
  have he656323 : F656304 q656189 = .inl (I .byte, n656193, .inl f656192) := (hfr656306 q656189 hm656229 nm_n).trans he656290
  have hfr656324 : rFr [] P656186 F656187 F656304 := rFr_call hsb656232 hfr656291 hfr656306 (fun b hb hn => ⟨nm_n, nm_n⟩)
  have hne656325 : q656219 ≠ q656298 := fun h => hq656314 (h ▸ hm656226)
  change G _ _ _ _ _ _ _ (.ref q656297 :: _) _ _ _
  refine G_widen (cs' := 4) (sl' := 20 + (o656279.toInt.toNat + 4)) (by omega) (by omega) ?_
  refine Gw_callVk (As := [.ref q656297]) (gV_ok D I) (cp_641729_String_indexOf l hl0 D I P656303 F656304 q656297 q656298 (D.2 1000 42) (D.2 1001 42) sb_42 0 0 f656300 n656299 hm656311 hm656313 he656307 he656310 (gx_sc 42 rfl rfl) (by omega) (by decide +kernel) (gB_w (gBl (show Int32.toInt 0 = 0 by decide)) (by decide) (by decide)) bf656300 (by have qa0 : Int32.toInt 0 = 0 := (by decide); omega) (by have qa0 : Int32.toInt 0 = 0 := (by decide); omega)) dr_cX17_operation_26 ⟨wr_10_102, wr_1_21, wr_8_199, by decide, rfl, (Nat.le_of_ble_eq_true rfl), (Nat.le_of_ble_eq_true rfl)⟩ wr_8_197 wr_8_198 (fun _ _ _ h => ((gx_sc 42 rfl rfl) _ _ _ h).1) (show 4 + 0 ≤ 8 by first | omega | decide) (show 20 + (o656279.toInt.toNat + 4) + 0 ≤ 64 by first | omega | decide) (Nat.le_of_ble_eq_true rfl) (fun r656329 w656330 dc656326 ds656327 hp656328 => ?_) (fun _ _ _ _ _ z => z.elim)
  obtain ⟨o656331, rfl, rfl, hdc, hds, bo656331, x656332, x656333⟩ := hp656328
  change G _ _ _ _ _ _ _ (.int o656331 :: _) _ _ _
  refine G_widen (cs' := 4) (sl' := 20 + (o656279.toInt.toNat + 4) + 0) (by omega) (by omega) ?_
  refine G_istore_n (L' := [(1, .int o656331), (0, .ref q656188)]) dr_cX17_operation_29 (Nat.le_of_ble_eq_true rfl) rfl ?_
  refine G_iload_n 0 dr_cX17_operation_30 rfl ?_
  refine G_if_ge 36 dr_cX17_operation_31 (by decide +kernel) (fun hc656334 => ?_) (fun hc656334 => ?_)
  · have r656335 : 0 ≤ o656331.toInt := gj_leL hc656334 (show Int32.toInt 0 = 0 by decide)
    have bo656331' : gB o656331 0 16777215 := ⟨by omega, by omega⟩
    have x656336 : o656331.toInt ≤ 30 := opA x656246 x656263 x656282 x656302 x656333 (by omega) (by omega) rfl (by omega) (by omega) (by omega) (by omega) (by omega)
    refine G_iconst 1 dr_cX17_operation_36 (by decide +kernel) ?_
    refine G_istore_n (L' := [(2, .int 1), (1, .int o656331), (0, .ref q656188)]) dr_cX17_operation_37 (Nat.le_of_ble_eq_true rfl) rfl ?_
    refine G_iconst 0 dr_cX17_operation_38 (by decide +kernel) ?_
    refine G_istore_n (L' := [(3, .int 0), (2, .int 1), (1, .int o656331), (0, .ref q656188)]) dr_cX17_operation_39 (Nat.le_of_ble_eq_true rfl) rfl ?_
    have hlp40_656512 : ∀ (n40_656512 : Nat) (g656509 : Int32) (g656510 : Int32), gB g656509 0 16777215 → opI g656509 g656510 → g656509.toInt ≤ o656331.toInt → ((16777216 : Int) - g656509.toInt).toNat < n40_656512 → G (gV D I) l (gRm 6 132 8 64) (gMA (gV D I) (pp_656196_SpillForgeModel_operation D I P656186 F656187 q656188 q656189 p656190 p656191 f656192 n656193) gNA 8 64) ky_656196_SpillForgeModel_operation 40 [(3, .int g656509), (2, .int g656510), (1, .int o656331), (0, .ref q656188)] [] (va_pl P656303 F656304) 4 (20 + (o656279.toInt.toNat + 4) + 0) := by
      intro n40_656512
      induction n40_656512 with
      | zero => intro g656509 g656510 bg656509 x656511 x656512 hm40_656512; exact absurd hm40_656512 (Nat.not_lt_zero _)
      | succ n40_656512 ih40_656512 =>
        intro g656509 g656510 bg656509 x656511 x656512 hm40_656512
        have bg656510 := gB_any g656510
        refine G_iload_n 0 dr_cX17_operation_40 rfl ?_
        refine G_iload_n 2 dr_cX17_operation_41 rfl ?_
        refine G_icmp_ge 70 dr_cX17_operation_42 (by decide +kernel) (fun hc656513 => ?_) (fun hc656513 => ?_)
        · have r656514 : o656331.toInt ≤ g656509.toInt := gC_le hc656513
          have bx656515 : gB g656510 1 14 := opI_b x656511 (by omega)
          refine G_iload_n 1 dr_cX17_operation_70 rfl ?_
          exact G_iretA dr_cX17_operation_71 rfl (Nat.le_of_ble_eq_true rfl) (show 20 + (o656279.toInt.toNat + 4) + 0 ≤ 64 by omega) ⟨P656303, F656304, g656510, rfl, rfl, hsb656321, hfr656324, he656322, he656323, (Nat.le_of_ble_eq_true rfl), (by omega), (gB_w bx656515 (by decide) (by decide)), (by have qa0 : Int32.toInt 0 = 0 := (by decide); omega), (by have qa0 : Int32.toInt 0 = 0 := (by decide); omega)⟩
        · have r656516 : g656509.toInt < o656331.toInt := gC_nle hc656513
          have bg656509' : gB g656509 0 16777214 := ⟨by omega, by omega⟩
          have bo656331'' : gB o656331 1 16777215 := ⟨by omega, by omega⟩
          have bx656517 : gB g656510 1 14 := opI_b x656511 (by omega)
          refine G_iload_n 1 dr_cX17_operation_45 rfl ?_
          refine G_ldcK (a := D.2 1000 42) dr_cX17_operation_46 (fun _ _ _ h => gx_vk 42 rfl rfl h) ?_
          have hl42_656517 : (sb_42.length : Int) = 34 := rfl
          refine G_iload_n 0 dr_cX17_operation_48 rfl ?_
          refine Gw_callVk (As := [.int g656509]) (gV_ok D I) (cp_656348_String_charAt l hl0 D I P656303 F656304 (D.2 1000 42) (D.2 1001 42) sb_42 g656509 (gx_sc 42 rfl rfl) (by omega) (by decide +kernel) ⟨by omega, by omega⟩ (by have qa0 : Int32.toInt 0 = 0 := (by decide); omega)) dr_cX17_operation_49 ⟨wr_10_103, wr_1_21, wr_3_70, by decide, rfl, (Nat.le_of_ble_eq_true rfl), (Nat.le_of_ble_eq_true rfl)⟩ wr_3_68 wr_3_69 (fun _ _ _ h => ((gx_sc 42 rfl rfl) _ _ _ h).1) (show 4 + 0 ≤ 8 by first | omega | decide) (show 20 + (o656279.toInt.toNat + 4) + 0 + 0 ≤ 64 by first | omega | decide) (Nat.le_of_ble_eq_true rfl) (fun r656522 w656523 dc656519 ds656520 hp656521 => ?_) (fun _ _ _ _ _ z => z.elim)
          obtain ⟨o656524, rfl, rfl, hdc, hds, bo656524, x656525⟩ := hp656521
          change G _ _ _ _ _ _ _ (.int o656524 :: _) _ _ _
          refine G_widen (cs' := 4) (sl' := 20 + (o656279.toInt.toNat + 4) + 0 + 0) (by omega) (by omega) ?_
          refine G_bipush 32 dr_cX17_operation_52 (by decide +kernel) ?_
          refine G_icmp_ne 61 dr_cX17_operation_54 (by decide +kernel) (fun hc656526 => ?_) (fun hc656526 => ?_)
          · have r656527 : o656524.toInt ≠ 32 := gj_neq hc656526 (show Int32.toInt 32 = 32 by decide)
            refine G_iconst 0 dr_cX17_operation_61 (by decide +kernel) ?_
            refine G_iadd dr_cX17_operation_62 (G_nam fun z656528 hz656528 => ?_)
            have ez656528 : z656528.toInt = g656510.toInt + 0 := by rw [gI_add hz656528 bx656517 (gBl (show Int32.toInt 0 = 0 by decide)) (by decide) (by decide), show Int32.toInt 0 = 0 from by decide]
            have bz656528 : gB z656528 1 14 := gB_add (gI_add hz656528 bx656517 (gBl (show Int32.toInt 0 = 0 by decide)) (by decide) (by decide)) bx656517 (gBl (show Int32.toInt 0 = 0 by decide)) (by decide) (by decide)
            refine G_istore_n (L' := [(2, .int z656528), (3, .int g656509), (1, .int o656331), (0, .ref q656188)]) dr_cX17_operation_63 (Nat.le_of_ble_eq_true rfl) rfl ?_
            obtain ⟨z656529, hz656529⟩ : ∃ z : Int32, z = g656509 + Int32.ofInt 1 := ⟨_, rfl⟩
            have ez656529 : z656529.toInt = g656509.toInt + 1 := gI_inc hz656529 (by decide) bg656509' (by decide) (by decide)
            have bz656529 : gB z656529 1 16777215 := ⟨by omega, by omega⟩
            refine G_iinc (L' := [(3, .int z656529), (2, .int z656528), (1, .int o656331), (0, .ref q656188)]) z656529 1 dr_cX17_operation_64 rfl hz656529.symm (Nat.le_of_ble_eq_true rfl) rfl ?_
            refine G_goto 40 dr_cX17_operation_67 (by decide +kernel) ?_
            exact ih40_656512 z656529 z656528 (gB_w bz656529 (by decide) (by decide)) (by have qa0 : Int32.toInt 0 = 0 := (by decide); have qa1 : Int32.toInt 1 = 1 := (by decide); first | exact opI_st (d := 1) x656511 (by omega) (by omega) (by omega) x656525 (Or.inl ⟨by omega, rfl⟩) | exact opI_st (d := 0) x656511 (by omega) (by omega) (by omega) x656525 (Or.inr ⟨by omega, rfl⟩)) (by have qa0 : Int32.toInt 0 = 0 := (by decide); omega) (by have qa0 : Int32.toInt 0 = 0 := (by decide); omega)
          · have r656530 : o656524.toInt = 32 := gj_eq hc656526 (show Int32.toInt 32 = 32 by decide)
            have bo656524' : gB o656524 32 32 := ⟨by omega, by omega⟩
            refine G_iconst 1 dr_cX17_operation_57 (by decide +kernel) ?_
            refine G_goto 62 dr_cX17_operation_58 (by decide +kernel) ?_
            refine G_iadd dr_cX17_operation_62 (G_nam fun z656531 hz656531 => ?_)
            have ez656531 : z656531.toInt = g656510.toInt + 1 := by rw [gI_add hz656531 bx656517 (gBl (show Int32.toInt 1 = 1 by decide)) (by decide) (by decide), show Int32.toInt 1 = 1 from by decide]
            have bz656531 : gB z656531 2 15 := gB_add (gI_add hz656531 bx656517 (gBl (show Int32.toInt 1 = 1 by decide)) (by decide) (by decide)) bx656517 (gBl (show Int32.toInt 1 = 1 by decide)) (by decide) (by decide)
            refine G_istore_n (L' := [(2, .int z656531), (3, .int g656509), (1, .int o656331), (0, .ref q656188)]) dr_cX17_operation_63 (Nat.le_of_ble_eq_true rfl) rfl ?_
            obtain ⟨z656532, hz656532⟩ : ∃ z : Int32, z = g656509 + Int32.ofInt 1 := ⟨_, rfl⟩
            have ez656532 : z656532.toInt = g656509.toInt + 1 := gI_inc hz656532 (by decide) bg656509' (by decide) (by decide)
            have bz656532 : gB z656532 1 16777215 := ⟨by omega, by omega⟩
            refine G_iinc (L' := [(3, .int z656532), (2, .int z656531), (1, .int o656331), (0, .ref q656188)]) z656532 1 dr_cX17_operation_64 rfl hz656532.symm (Nat.le_of_ble_eq_true rfl) rfl ?_
            refine G_goto 40 dr_cX17_operation_67 (by decide +kernel) ?_
            exact ih40_656512 z656532 z656531 (gB_w bz656532 (by decide) (by decide)) (by have qa0 : Int32.toInt 0 = 0 := (by decide); have qa1 : Int32.toInt 1 = 1 := (by decide); first | exact opI_st (d := 1) x656511 (by omega) (by omega) (by omega) x656525 (Or.inl ⟨by omega, rfl⟩) | exact opI_st (d := 0) x656511 (by omega) (by omega) (by omega) x656525 (Or.inr ⟨by omega, rfl⟩)) (by have qa0 : Int32.toInt 0 = 0 := (by decide); omega) (by have qa0 : Int32.toInt 0 = 0 := (by decide); omega)
    exact hlp40_656512 (((16777216 : Int) - 0).toNat + 1) 0 1 (gB_w (gBl (show Int32.toInt 0 = 0 by decide)) (by decide) (by decide)) opI_0 (by have qa0 : Int32.toInt 0 = 0 := (by decide); have qa1 : Int32.toInt 1 = 1 := (by decide); omega) (Nat.lt_succ_self _)
  · have r656533 : o656331.toInt < 0 := gj_nleL hc656334 (show Int32.toInt 0 = 0 by decide)
    have bo656331' : gB o656331 (-2147483646) (-1) := ⟨by omega, by omega⟩
    refine G_iconst 0 dr_cX17_operation_34 (by decide +kernel) ?_
    exact G_iretA dr_cX17_operation_35 rfl (Nat.le_of_ble_eq_true rfl) (show 20 + (o656279.toInt.toNat + 4) + 0 ≤ 64 by omega) ⟨P656303, F656304, 0, rfl, rfl, hsb656321, hfr656324, he656322, he656323, (Nat.le_of_ble_eq_true rfl), (by omega), (gB_w (gBl (show Int32.toInt 0 = 0 by decide)) (by decide) (by decide)), (by have qa0 : Int32.toInt 0 = 0 := (by decide); omega), (by have qa0 : Int32.toInt 0 = 0 := (by decide); omega)⟩
